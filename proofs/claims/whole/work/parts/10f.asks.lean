theorem yrsM_wf {n y z l : Nat} {τ : Nat → Nat → Nat} (hn : n ≤ 6) (h : WFt n τ) : ∀ k, WFt n (yrsM n y z l τ k)
  | 0 => h
  | k + 1 => yrM_wf hn (yrsM_wf hn h k)
def MW (σ : Sg) (n y : Nat) (τ : Nat → Nat → Nat) (fl n2 y2 : Nat) (τ2 : Nat → Nat → Nat) (m : Nat) (cs : Nat → Nat) (rl : Nat) (ro rc : Nat → Nat) (q : Nat × Int32) : Int32 → Sg → Prop := fun r σ1 => r = rB q ∧ MR σ1 n y τ fl n2 y2 τ2 m cs rl ro (rU rc q) ∧ Fm σ σ1
theorem MW.no {σ : Sg} {n y : Nat} {τ : Nat → Nat → Nat} {fl n2 y2 : Nat} {τ2 : Nat → Nat → Nat} {m : Nat} {cs : Nat → Nat} {rl : Nat} {ro rc : Nat → Nat} {q : Nat × Int32} {k : Nat} {v : Int32} (h : MR σ n y τ fl n2 y2 τ2 m cs rl ro rc) (hq : q = (k, 0)) (hk : 0 < k) (hv : v = -(nI k)) : MW σ n y τ fl n2 y2 τ2 m cs rl ro rc q (1000000000 - v) (w2 σ 44 k (nI (rc k + 1))) := by
  obtain ⟨h1, h2, h3⟩ := MP.no (v := v) h hq hk hv
  refine ⟨?_, h2, h3⟩
  subst hq
  show _ = if k = 0 then 0 else 1000000000 - (-(nI k))
  rw [if_neg (by omega), hv]
theorem MW.yes {σ σ1 : Sg} {n y : Nat} {τ : Nat → Nat → Nat} {fl n2 y2 : Nat} {τ2 : Nat → Nat → Nat} {m : Nat} {cs : Nat → Nat} {rl : Nat} {ro rc : Nat → Nat} {q : Nat × Int32} {v : Int32} (h : MR σ n y τ fl n2 y2 τ2 m cs rl ro rc) (hT : YA σ1 n y 6 6 τ) (hF : Gz σ σ1) (hq : q = (0, v)) : MW σ n y τ fl n2 y2 τ2 m cs rl ro rc q v σ1 := by
  subst hq
  exact ⟨rfl, h.gz hT h.y9 hF, fun o ho => hF.1 o (Or.inl ho)⟩
-- isAsThen
set_option maxHeartbeats 4000000 in
set_option maxRecDepth 100000 in
theorem m_isAsThen {σ : Sg} {n y : Nat} {τ : Nat → Nat → Nat} (hS : SA σ 45 n y τ) {y2 : Nat} {υ : Nat → Nat → Nat} (hU : SA σ 52 n y2 υ) : Con 2 yX3_isAsThen cX3_isAsThen 3 (some .boolean) [.ref 43] σ (PI (fun r σ1 => σ1 = σ ∧ ((r = nI 1 ∧ alike n τ υ) ∨ (r = nI 0 ∧ ¬ alike n τ υ)))) := by
  refine Con.of (by decide) (by simp [Value.category]) (Nat.le_of_ble_eq_true rfl) (fun x hB => ?_)
  show V x RX3 cX3_isAsThen 3 0 [some (.ref 43), none, none] [] _
  have hn6 := hS.n6
  have hyb := hS.yb
  refine V.iconst (q := 1) (v := nI 0) dX3_isAsThen_0 rfl (by decide +kernel) ?_
  refine V.ist1 (q := 2) dX3_isAsThen_1 rfl ?_
  have loop : ∀ j, j ≤ n → (∀ i, i < j → τ 1 i = υ 1 i ∧ τ 6 i = υ 6 i) → ∀ o2, V x RX3 cX3_isAsThen 3 2 [some (.ref 43), some (.int (nI j)), o2] [] σ := by
    refine down n (fun j hj ih hall o2 => ?_)
    refine V.iload_n (q := 3) dX3_isAsThen_2 rfl rfl ?_
    refine V.aload_n (q := 4) dX3_isAsThen_3 rfl rfl ?_
    refine V.getR (q := 7) dX3_isAsThen_4 rfl kf_X3_13 rfl (by decide) rfl ?_
    refine V.iconst (q := 8) (v := nI 0) dX3_isAsThen_7 rfl (by decide +kernel) ?_
    refine V.ialdN (q := 9) dX3_isAsThen_8 rfl rfl (by decide) (by omega) (by decide) (SA.c hS) ?_
    refine V.icmpN_ge (t := 56) (q := 12) dX3_isAsThen_9 (by decide) rfl (by omega) (by omega) (fun c9 => ?_) (fun c9 => ?_)
    · have ej : j = n := by omega
      subst ej
      refine V.iconst (q := 57) (v := nI 1) dX3_isAsThen_56 rfl (by decide +kernel) ?_
      exact V.ret_int hB dX3_isAsThen_57 (by decide +kernel) ⟨_, rfl, ⟨rfl, Or.inl ⟨rfl, hall⟩⟩⟩
    · have h1 := hS.w j c9
      have h2 := hU.w j c9
      refine V.iconst (q := 13) (v := nI 1) dX3_isAsThen_12 rfl (by decide +kernel) ?_
      refine V.ist2 (q := 14) dX3_isAsThen_13 rfl ?_
      refine V.iload_n (q := 15) dX3_isAsThen_14 rfl rfl ?_
      refine V.bipush (q := 17) (v := nI 6) dX3_isAsThen_15 rfl (by decide +kernel) ?_
      refine V.icmpN_gt (t := 50) (q := 20) dX3_isAsThen_17 (by decide) rfl (by omega) (by omega) (fun c17 => absurd c17 (by decide +kernel)) (fun c17 => ?_)
      refine V.aload_n (q := 21) dX3_isAsThen_20 rfl rfl ?_
      refine V.iload_n (q := 22) dX3_isAsThen_21 rfl rfl ?_
      refine V.iload_n (q := 23) dX3_isAsThen_22 rfl rfl ?_
      refine V.cvi2 (q := 26) dX3_isAsThen_23 rfl kc_X3_109 rfl (by decide) rfl (hB.rm (by decide)) (Nat.le_of_ble_eq_true rfl) (m_get hS (by omega) 1 (by decide)) (fun r23 τ23 hp23 => ?_)
      obtain ⟨rfl, hz⟩ := hp23
      rw [hz]
      refine V.aload_n (q := 27) dX3_isAsThen_26 rfl rfl ?_
      refine V.getR (q := 30) dX3_isAsThen_27 rfl kf_X3_41 rfl (by decide) rfl ?_
      refine V.iconst (q := 31) (v := nI 2) dX3_isAsThen_30 rfl (by decide +kernel) ?_
      refine V.bipush (q := 33) (v := nI 7) dX3_isAsThen_31 rfl (by decide +kernel) ?_
      refine V.iload_n (q := 34) dX3_isAsThen_33 rfl rfl ?_
      refine V.imulN (q := 35) dX3_isAsThen_34 rfl ?_
      refine V.iaddN (q := 36) dX3_isAsThen_35 rfl ?_
      refine V.iload_n (q := 37) dX3_isAsThen_36 rfl rfl ?_
      refine V.iaddN (q := 38) dX3_isAsThen_37 rfl ?_
      refine V.ialdN (q := 39) dX3_isAsThen_38 rfl rfl (by decide) (by omega) (by decide) (hU.a c9 1 (by decide)) ?_
      refine V.icmpN_eq (t := 44) (q := 42) dX3_isAsThen_39 (by decide) rfl (by omega) (by omega) (fun c39 => ?_) (fun c39 => ?_)
      · have c391 := c39
        refine V.inc2 (q := 47) (v := nI 6) dX3_isAsThen_44 rfl (by decide +kernel) ?_
        refine V.goto (q := 14) dX3_isAsThen_47 (by decide) ?_
        refine V.iload_n (q := 15) dX3_isAsThen_14 rfl rfl ?_
        refine V.bipush (q := 17) (v := nI 6) dX3_isAsThen_15 rfl (by decide +kernel) ?_
        refine V.icmpN_gt (t := 50) (q := 20) dX3_isAsThen_17 (by decide) rfl (by omega) (by omega) (fun c17 => absurd c17 (by decide +kernel)) (fun c17 => ?_)
        refine V.aload_n (q := 21) dX3_isAsThen_20 rfl rfl ?_
        refine V.iload_n (q := 22) dX3_isAsThen_21 rfl rfl ?_
        refine V.iload_n (q := 23) dX3_isAsThen_22 rfl rfl ?_
        refine V.cvi2 (q := 26) dX3_isAsThen_23 rfl kc_X3_109 rfl (by decide) rfl (hB.rm (by decide)) (Nat.le_of_ble_eq_true rfl) (m_get hS (by omega) 6 (by decide)) (fun r23 τ23 hp23 => ?_)
        obtain ⟨rfl, hz⟩ := hp23
        rw [hz]
        refine V.aload_n (q := 27) dX3_isAsThen_26 rfl rfl ?_
        refine V.getR (q := 30) dX3_isAsThen_27 rfl kf_X3_41 rfl (by decide) rfl ?_
        refine V.iconst (q := 31) (v := nI 2) dX3_isAsThen_30 rfl (by decide +kernel) ?_
        refine V.bipush (q := 33) (v := nI 7) dX3_isAsThen_31 rfl (by decide +kernel) ?_
        refine V.iload_n (q := 34) dX3_isAsThen_33 rfl rfl ?_
        refine V.imulN (q := 35) dX3_isAsThen_34 rfl ?_
        refine V.iaddN (q := 36) dX3_isAsThen_35 rfl ?_
        refine V.iload_n (q := 37) dX3_isAsThen_36 rfl rfl ?_
        refine V.iaddN (q := 38) dX3_isAsThen_37 rfl ?_
        refine V.ialdN (q := 39) dX3_isAsThen_38 rfl rfl (by decide) (by omega) (by decide) (hU.a c9 6 (by decide)) ?_
        refine V.icmpN_eq (t := 44) (q := 42) dX3_isAsThen_39 (by decide) rfl (by omega) (by omega) (fun c39 => ?_) (fun c39 => ?_)
        · refine V.inc2 (q := 47) (v := nI 11) dX3_isAsThen_44 rfl (by decide +kernel) ?_
          refine V.goto (q := 14) dX3_isAsThen_47 (by decide) ?_
          refine V.iload_n (q := 15) dX3_isAsThen_14 rfl rfl ?_
          refine V.bipush (q := 17) (v := nI 6) dX3_isAsThen_15 rfl (by decide +kernel) ?_
          refine V.icmpN_gt (t := 50) (q := 20) dX3_isAsThen_17 (by decide) rfl (by omega) (by omega) (fun c17 => ?_) (fun c17 => absurd c17 (by decide +kernel))
          refine V.inc1 (q := 53) dX3_isAsThen_50 rfl (inc1 _) ?_
          refine V.goto (q := 2) dX3_isAsThen_53 (by decide) ?_
          refine ih c9 (fun k h9 => ?_) _
          rcases Nat.lt_or_ge k j with h8 | h8
          · exact hall k h8
          · have : k = j := by omega
            subst this
            exact ⟨c391, c39⟩
        · refine V.iconst (q := 43) (v := nI 0) dX3_isAsThen_42 rfl (by decide +kernel) ?_
          exact V.ret_int hB dX3_isAsThen_43 (by decide +kernel) ⟨_, rfl, ⟨rfl, Or.inr ⟨rfl, fun h9 => c39 (h9 j c9).2⟩⟩⟩
      · refine V.iconst (q := 43) (v := nI 0) dX3_isAsThen_42 rfl (by decide +kernel) ?_
        exact V.ret_int hB dX3_isAsThen_43 (by decide +kernel) ⟨_, rfl, ⟨rfl, Or.inr ⟨rfl, fun h9 => c39 (h9 j c9).1⟩⟩⟩
  exact loop 0 (Nat.zero_le _) (fun i h9 => absurd h9 (by omega)) _

-- again
set_option maxHeartbeats 4000000 in
set_option maxRecDepth 100000 in
theorem m_again {σ : Sg} {n y : Nat} {τ : Nat → Nat → Nat} {fl n2 y2 : Nat} {τ2 : Nat → Nat → Nat} {m : Nat} {cs : Nat → Nat} {rl : Nat} {ro rc : Nat → Nat} (hX : MR σ n y τ fl n2 y2 τ2 m cs rl ro rc) : Con 6 yX3_again cX3_again 3 (some .int) [.ref 43] σ (PI (MP σ n y τ fl n2 y2 τ2 m cs rl ro rc (q_again n y τ))) := by
  refine Con.of (by decide) (by simp [Value.category]) (Nat.le_of_ble_eq_true rfl) (fun x hB => ?_)
  show V x RX3 cX3_again 3 0 [some (.ref 43), none, none] [] _
  have hY := hX.now
  have hS := hY.s
  have hn6 := hS.n6
  have hy9 := hX.y9
  refine V.aload_n (q := 1) dX3_again_0 rfl rfl ?_
  refine V.cvv0 (q := 4) dX3_again_1 rfl kc_X3_152 rfl (by decide) rfl (hB.rm (by decide)) (Nat.le_of_ble_eq_true rfl) (m_begins hS) (fun τ1 hp1 => ?_)
  obtain ⟨hM1, hS1, hF1⟩ := hp1
  have hG1 := Gz.rf.c hF1 (by decide)
  have hY1 : YA τ1 n y 6 6 τ := ⟨hS1, by rw [hF1 43 (by decide)]; exact hY.2⟩
  refine V.aload_n (q := 5) dX3_again_4 rfl rfl ?_
  refine V.bipush (q := 7) (v := nI 40) dX3_again_5 rfl (by decide +kernel) ?_
  refine V.cvv1 (q := 10) dX3_again_7 rfl kc_X3_133 rfl (by decide) rfl (hB.rm (by decide)) (Nat.le_of_ble_eq_true rfl) (m_goesFor hY1 (k := 40) (by omega)) (fun τ7 hp7 => ?_)
  obtain ⟨hY2, hF2⟩ := hp7
  have hM2 := hM1.fr (hF2 48 (by decide) (by decide))
  have hG2 := hG1.y hF2
  have hS2 := hY2.s
  refine V.aload_n (q := 11) dX3_again_10 rfl rfl ?_
  refine V.getR (q := 14) dX3_again_11 rfl kf_X3_13 rfl (by decide) rfl ?_
  refine V.aload_n (q := 15) dX3_again_14 rfl rfl ?_
  refine V.getR (q := 18) dX3_again_15 rfl kf_X3_41 rfl (by decide) rfl ?_
  refine V.csv2 (q := 21) dX3_again_18 rfl kc_X3_56 (hB.rm (by decide)) (Nat.le_of_ble_eq_true rfl) (m_lays rfl rfl (by decide) (by decide) (by decide)) (fun τ18 hp18 => ?_)
  obtain ⟨hc, hF3⟩ := hp18
  have hU3 := hS2.cp hc
  have hY3 : YA τ18 n (y + 40) 6 6 (yM n y τ 40) := ⟨hS2.fr (hF3 45 (by decide)), by rw [hF3 43 (by decide)]; exact hY2.2⟩
  have hM3 := hM2.fr (hF3 48 (by decide))
  have hG3 := hG2.c hF3 (by decide)
  refine V.bipush (q := 23) (v := (-9)) dX3_again_21 rfl (by decide +kernel) ?_
  refine V.ist1 (q := 24) dX3_again_23 rfl ?_
  refine V.iconst (q := 25) (v := nI 1) dX3_again_24 rfl (by decide +kernel) ?_
  refine V.ist2 (q := 26) dX3_again_25 rfl ?_
  have loop : ∀ i, i ≤ 30 → ∀ σ1 (v : Int32) y1 τ1, YA σ1 n y1 6 6 τ1 → SA σ1 48 n y τ → SA σ1 52 n (y + 40) (yM n y τ 40) → Gz σ σ1 → ((y1 = y + (40 + i) ∧ τ1 = yM n y τ (40 + i) ∧ v = -9 ∧ fsK (fun j => alB n (yM n y τ (40 + (j + 1))) (yM n y τ 40)) i = none) ∨ (∃ o, v = nI (o + 1) ∧ o < 30 ∧ fsK (fun j => alB n (yM n y τ (40 + (j + 1))) (yM n y τ 40)) 30 = some o)) → V x RX3 cX3_again 3 26 [some (.ref 43), some (.int v), some (.int (nI (i + 1)))] [] σ1 := by
    refine down 30 (fun i hi ih σ1 v y1 τ1 hY1 hM1 hU1 hG1 hv => ?_)
    rcases hv with ⟨rfl, rfl, rfl, hno⟩ | ⟨o, rfl, ho, hso⟩
    · skip
      refine V.iload_n (q := 27) dX3_again_26 rfl rfl ?_
      refine V.bipush (q := 29) (v := nI 30) dX3_again_27 rfl (by decide +kernel) ?_
      refine V.icmpN_gt (t := 60) (q := 32) dX3_again_29 (by decide) rfl (by omega) (by omega) (fun c29 => ?_) (fun c29 => ?_)
      · have ei : i = 30 := by omega
        subst ei
        refine V.aload_n (q := 61) dX3_again_60 rfl rfl ?_
        refine V.cvv0 (q := 64) dX3_again_61 rfl kc_X3_139 rfl (by decide) rfl (hB.rm (by decide)) (Nat.le_of_ble_eq_true rfl) (m_ends hM1) (fun τ61 hp61 => ?_)
        obtain ⟨hS3, hM3, hF3⟩ := hp61
        have hY3 : YA τ61 n y 6 6 τ := ⟨hS3, by rw [hF3 43 (by decide)]; exact hY1.2⟩
        have hG3 := hG1.c hF3 (by decide)
        refine V.iload_n (q := 65) dX3_again_64 rfl rfl ?_
        exact V.ret_int hB dX3_again_65 rfl ⟨_, rfl, MP.yes hX (hY3) (hG3) (by unfold q_again; rw [hno]; rfl)⟩
      · refine V.iload_n (q := 33) dX3_again_32 rfl rfl ?_
        refine V.if_ge (t := 60) (q := 36) dX3_again_33 (by decide) rfl  (fun c33 => absurd c33 (by decide +kernel)) (fun c33 => ?_)
        refine V.aload_n (q := 37) dX3_again_36 rfl rfl ?_
        refine V.cvv0 (q := 40) dX3_again_37 rfl kc_X3_127 rfl (by decide) rfl (hB.rm (by decide)) (Nat.le_of_ble_eq_true rfl) (m_goes hY1 (by omega)) (fun τ37 hp37 => ?_)
        obtain ⟨hY2, hF2⟩ := hp37
        have hM2 := hM1.fr (hF2 48 (by decide) (by decide))
        have hU2 := hU1.fr (hF2 52 (by decide) (by decide))
        have hG2 := hG1.y hF2
        refine V.aload_n (q := 41) dX3_again_40 rfl rfl ?_
        refine V.cvi0 (q := 44) dX3_again_41 rfl kc_X3_155 rfl (by decide) rfl (hB.rm (by decide)) (Nat.le_of_ble_eq_true rfl) (m_isAsThen hY2.s hU2) (fun r41 τ41 hp41 => ?_)
        obtain ⟨hz, ⟨rfl, hal⟩ | ⟨rfl, hal⟩⟩ := hp41
        · rw [hz]
          have hp9 := fsK_y hno (alB_iff.mpr hal)
          refine V.ifN_eq (t := 51) (q := 47) dX3_again_44 (by decide) rfl (by omega) (fun c44 => absurd c44 (by decide +kernel)) (fun c44 => ?_)
          refine V.iload_n (q := 48) dX3_again_47 rfl rfl ?_
          refine V.goto (q := 53) dX3_again_48 (by decide) ?_
          refine V.ist1 (q := 54) dX3_again_53 rfl ?_
          refine V.inc2 (q := 57) dX3_again_54 rfl (inc1 _) ?_
          refine V.goto (q := 26) dX3_again_57 (by decide) ?_
          exact ih (by omega) _ _ _ _ hY2 hM2 hU2 hG2 (Or.inr ⟨i, rfl, by omega, fsK_up hp9 (show i + 1 ≤ 30 by omega)⟩)
        · rw [hz]
          have hp9 := fsK_n hno (fun h9 => hal (alB_iff.mp h9))
          refine V.ifN_eq (t := 51) (q := 47) dX3_again_44 (by decide) rfl (by omega) (fun c44 => ?_) (fun c44 => absurd c44 (by decide +kernel))
          refine V.bipush (q := 53) (v := (-9)) dX3_again_51 rfl (by decide +kernel) ?_
          refine V.ist1 (q := 54) dX3_again_53 rfl ?_
          refine V.inc2 (q := 57) dX3_again_54 rfl (inc1 _) ?_
          refine V.goto (q := 26) dX3_again_57 (by decide) ?_
          exact ih (by omega) _ _ _ _ hY2 hM2 hU2 hG2 (Or.inl ⟨rfl, rfl, rfl, hp9⟩)
    · skip
      refine V.iload_n (q := 27) dX3_again_26 rfl rfl ?_
      refine V.bipush (q := 29) (v := nI 30) dX3_again_27 rfl (by decide +kernel) ?_
      refine V.icmpN_gt (t := 60) (q := 32) dX3_again_29 (by decide) rfl (by omega) (by omega) (fun c29 => ?_) (fun c29 => ?_)
      · refine V.aload_n (q := 61) dX3_again_60 rfl rfl ?_
        refine V.cvv0 (q := 64) dX3_again_61 rfl kc_X3_139 rfl (by decide) rfl (hB.rm (by decide)) (Nat.le_of_ble_eq_true rfl) (m_ends hM1) (fun τ61 hp61 => ?_)
        obtain ⟨hS3, hM3, hF3⟩ := hp61
        have hY3 : YA τ61 n y 6 6 τ := ⟨hS3, by rw [hF3 43 (by decide)]; exact hY1.2⟩
        have hG3 := hG1.c hF3 (by decide)
        refine V.iload_n (q := 65) dX3_again_64 rfl rfl ?_
        exact V.ret_int hB dX3_again_65 rfl ⟨_, rfl, MP.yes hX (hY3) (hG3) (by unfold q_again; rw [hso]; rfl)⟩
      · refine V.iload_n (q := 33) dX3_again_32 rfl rfl ?_
        refine V.ifN_ge (t := 60) (q := 36) dX3_again_33 (by decide) rfl (by omega) (fun c33 => ?_) (fun c33 => absurd c33 (by omega))
        refine V.aload_n (q := 61) dX3_again_60 rfl rfl ?_
        refine V.cvv0 (q := 64) dX3_again_61 rfl kc_X3_139 rfl (by decide) rfl (hB.rm (by decide)) (Nat.le_of_ble_eq_true rfl) (m_ends hM1) (fun τ61 hp61 => ?_)
        obtain ⟨hS3, hM3, hF3⟩ := hp61
        have hY3 : YA τ61 n y 6 6 τ := ⟨hS3, by rw [hF3 43 (by decide)]; exact hY1.2⟩
        have hG3 := hG1.c hF3 (by decide)
        refine V.iload_n (q := 65) dX3_again_64 rfl rfl ?_
        exact V.ret_int hB dX3_again_65 rfl ⟨_, rfl, MP.yes hX (hY3) (hG3) (by unfold q_again; rw [hso]; rfl)⟩
  exact loop 0 (by decide) _ _ _ _ hY3 hM3 hU3 hG3 (Or.inl ⟨rfl, rfl, rfl, rfl⟩)

-- way
set_option maxHeartbeats 4000000 in
set_option maxRecDepth 100000 in
theorem m_way {σ : Sg} {n y : Nat} {τ : Nat → Nat → Nat} {fl n2 y2 : Nat} {τ2 : Nat → Nat → Nat} {m : Nat} {cs : Nat → Nat} {rl : Nat} {ro rc : Nat → Nat} (hX : MR σ n y τ fl n2 y2 τ2 m cs rl ro rc) (v : Int32) (w : Int32) : Con 3 yX3_way cX3_way 3 (some .int) [.ref 43, .int v, .int w] σ (PI (MP σ n y τ fl n2 y2 τ2 m cs rl ro rc (q_way n τ v w))) := by
  refine Con.of (by decide) (by simp [Value.category]) (Nat.le_of_ble_eq_true rfl) (fun x hB => ?_)
  show V x RX3 cX3_way 3 0 [some (.ref 43), some (.int v), some (.int w)] [] _
  have hY := hX.now
  have hS := hY.s
  have hn6 := hS.n6
  have hy9 := hX.y9
  have hme : ∀ a, a < n → τ 5 a < n := fun a h9 => (hS.w a h9).2.2.2.2.2.1
  refine V.aload_n (q := 1) dX3_way_0 rfl rfl ?_
  refine V.iload_n (q := 2) dX3_way_1 rfl rfl ?_
  refine V.cvi1 (q := 5) dX3_way_2 rfl kc_X3_142 rfl (by decide) rfl (hB.rm (by decide)) (Nat.le_of_ble_eq_true rfl) (m_isStreet hS v) (fun r2 τ2 hp2 => ?_)
  obtain ⟨hz, ⟨rfl, k, hk, rfl⟩ | ⟨rfl, hsk⟩⟩ := hp2
  · rw [hz]
    refine V.ifN_eq (t := 25) (q := 8) dX3_way_5 (by decide) rfl (by omega) (fun c5 => absurd c5 (by decide +kernel)) (fun c5 => ?_)
    refine V.aload_n (q := 9) dX3_way_8 rfl rfl ?_
    refine V.iload_n (q := 10) dX3_way_9 rfl rfl ?_
    refine V.cvi1 (q := 13) dX3_way_10 rfl kc_X3_142 rfl (by decide) rfl (hB.rm (by decide)) (Nat.le_of_ble_eq_true rfl) (m_isStreet hS w) (fun r10 τ10 hp10 => ?_)
    obtain ⟨hz, ⟨rfl, o, ho, rfl⟩ | ⟨rfl, hso⟩⟩ := hp10
    · rw [hz]
      refine V.ifN_eq (t := 25) (q := 16) dX3_way_13 (by decide) rfl (by omega) (fun c13 => absurd c13 (by decide +kernel)) (fun c13 => ?_)
      refine V.aload_n (q := 17) dX3_way_16 rfl rfl ?_
      refine V.iload_n (q := 18) dX3_way_17 rfl rfl ?_
      refine V.iload_n (q := 19) dX3_way_18 rfl rfl ?_
      refine V.cvi2 (q := 22) dX3_way_19 rfl kc_X3_158 rfl (by decide) rfl (hB.rm (by decide)) (Nat.le_of_ble_eq_true rfl) (m_wayOf hS hk ho) (fun r19 τ19 hp19 => ?_)
      obtain ⟨rfl, hz⟩ := hp19
      rw [hz, wyK_n hn6 hme hk]
      refine V.goto (q := 30) dX3_way_22 (by decide) ?_
      exact V.ret_int hB dX3_way_30 rfl ⟨_, rfl, MP.yes hX (hY) (Gz.rf) (by simp [q_way, stN_some hk (Nat.le_trans hn6 (by decide)), stN_some ho (Nat.le_trans hn6 (by decide))])⟩
    · rw [hz]
      refine V.ifN_eq (t := 25) (q := 16) dX3_way_13 (by decide) rfl (by omega) (fun c13 => ?_) (fun c13 => absurd c13 (by decide +kernel))
      refine V.aload_n (q := 26) dX3_way_25 rfl rfl ?_
      refine V.iconst (q := 27) (v := (-1)) dX3_way_26 rfl (by decide +kernel) ?_
      refine V.cvi1 (q := 30) dX3_way_27 rfl kc_X3_71 rfl (by decide) rfl (hB.rm (by decide)) (Nat.le_of_ble_eq_true rfl) (m_refuse hX (k := 1) (v := -1) (by decide) (by decide) (by decide +kernel)) (fun r27 τ27 hp27 => ?_)
      obtain ⟨rfl, hz⟩ := hp27
      rw [hz]
      exact V.ret_int hB dX3_way_30 rfl ⟨_, rfl, MP.no hX (by simp [q_way, stN_some hk (Nat.le_trans hn6 (by decide)), stN_none hso]) (by decide) (by decide +kernel)⟩
  · rw [hz]
    refine V.ifN_eq (t := 25) (q := 8) dX3_way_5 (by decide) rfl (by omega) (fun c5 => ?_) (fun c5 => absurd c5 (by decide +kernel))
    refine V.aload_n (q := 26) dX3_way_25 rfl rfl ?_
    refine V.iconst (q := 27) (v := (-1)) dX3_way_26 rfl (by decide +kernel) ?_
    refine V.cvi1 (q := 30) dX3_way_27 rfl kc_X3_71 rfl (by decide) rfl (hB.rm (by decide)) (Nat.le_of_ble_eq_true rfl) (m_refuse hX (k := 1) (v := -1) (by decide) (by decide) (by decide +kernel)) (fun r27 τ27 hp27 => ?_)
    obtain ⟨rfl, hz⟩ := hp27
    rw [hz]
    exact V.ret_int hB dX3_way_30 rfl ⟨_, rfl, MP.no hX (by simp [q_way, stN_none hsk]) (by decide) (by decide +kernel)⟩

-- ring
set_option maxHeartbeats 4000000 in
set_option maxRecDepth 100000 in
theorem m_ring {σ : Sg} {n y : Nat} {τ : Nat → Nat → Nat} {fl n2 y2 : Nat} {τ2 : Nat → Nat → Nat} {m : Nat} {cs : Nat → Nat} {rl : Nat} {ro rc : Nat → Nat} (hX : MR σ n y τ fl n2 y2 τ2 m cs rl ro rc) : Con 4 yX3_ring cX3_ring 3 (some .int) [.ref 43] σ (PI (MP σ n y τ fl n2 y2 τ2 m cs rl ro rc (q_ring n τ))) := by
  refine Con.of (by decide) (by simp [Value.category]) (Nat.le_of_ble_eq_true rfl) (fun x hB => ?_)
  show V x RX3 cX3_ring 3 0 [some (.ref 43), none, none] [] _
  have hY := hX.now
  have hS := hY.s
  have hn6 := hS.n6
  have hy9 := hX.y9
  refine V.iconst (q := 1) (v := nI 0) dX3_ring_0 rfl (by decide +kernel) ?_
  refine V.ist1 (q := 2) dX3_ring_1 rfl ?_
  refine V.iconst (q := 3) (v := nI 0) dX3_ring_2 rfl (by decide +kernel) ?_
  refine V.ist2 (q := 4) dX3_ring_3 rfl ?_
  have loop : ∀ j, j ≤ n → ∀ a, a = bsK (onB n (τ 5)) j → V x RX3 cX3_ring 3 4 [some (.ref 43), some (.int (nI a)), some (.int (nI j))] [] σ := by
    refine down n (fun j hj ih a ea => ?_)
    have ha := bsK_lt (onB n (τ 5)) j
    rw [← ea] at ha
    have ha6 : 2 ^ j ≤ 2 ^ 6 := Nat.pow_le_pow_right (by decide) (by omega)
    refine V.iload_n (q := 5) dX3_ring_4 rfl rfl ?_
    refine V.aload_n (q := 6) dX3_ring_5 rfl rfl ?_
    refine V.getR (q := 9) dX3_ring_6 rfl kf_X3_13 rfl (by decide) rfl ?_
    refine V.iconst (q := 10) (v := nI 0) dX3_ring_9 rfl (by decide +kernel) ?_
    refine V.ialdN (q := 11) dX3_ring_10 rfl rfl (by decide) (by omega) (by decide) (SA.c hS) ?_
    refine V.icmpN_ge (t := 38) (q := 14) dX3_ring_11 (by decide) rfl (by omega) (by omega) (fun c11 => ?_) (fun c11 => ?_)
    · have ej : n = j := by omega
      subst ej
      refine V.iload_n (q := 39) dX3_ring_38 rfl rfl ?_
      exact V.ret_int hB dX3_ring_39 rfl ⟨_, rfl, MP.yes hX (hY) (Gz.rf) (by rw [ea]; rfl)⟩
    · refine V.iload_n (q := 15) dX3_ring_14 rfl rfl ?_
      refine V.aload_n (q := 16) dX3_ring_15 rfl rfl ?_
      refine V.iload_n (q := 17) dX3_ring_16 rfl rfl ?_
      refine V.cvi1 (q := 20) dX3_ring_17 rfl kc_X3_161 rfl (by decide) rfl (hB.rm (by decide)) (Nat.le_of_ble_eq_true rfl) (m_isOnRing hS c11) (fun r17 τ17 hp17 => ?_)
      obtain ⟨hz, ⟨rfl, hon⟩ | ⟨rfl, hon⟩⟩ := hp17
      · rw [hz]
        refine V.ifN_eq (t := 29) (q := 23) dX3_ring_20 (by decide) rfl (by omega) (fun c20 => absurd c20 (by decide +kernel)) (fun c20 => ?_)
        refine V.iconst (q := 24) (v := nI 1) dX3_ring_23 rfl (by decide +kernel) ?_
        refine V.iload_n (q := 25) dX3_ring_24 rfl rfl ?_
        refine V.ishl (q := 26) dX3_ring_25 rfl ?_
        rw [shl1 (show j < 6 by omega)]
        refine V.goto (q := 30) dX3_ring_26 (by decide) ?_
        refine V.ior (q := 31) dX3_ring_30 rfl ?_
        rw [ior_all j (by omega) a ha]
        refine V.ist1 (q := 32) dX3_ring_31 rfl ?_
        refine V.inc2 (q := 35) dX3_ring_32 rfl (inc1 _) ?_
        refine V.goto (q := 4) dX3_ring_35 (by decide) ?_
        exact ih c11 _ (by unfold bsK; rw [if_pos (onB_iff.mpr hon), ea])
      · rw [hz]
        refine V.ifN_eq (t := 29) (q := 23) dX3_ring_20 (by decide) rfl (by omega) (fun c20 => ?_) (fun c20 => absurd c20 (by decide +kernel))
        refine V.iconst (q := 30) (v := nI 0) dX3_ring_29 rfl (by decide +kernel) ?_
        refine V.ior (q := 31) dX3_ring_30 rfl ?_
        rw [ior0_all a (by omega)]
        refine V.ist1 (q := 32) dX3_ring_31 rfl ?_
        refine V.inc2 (q := 35) dX3_ring_32 rfl (inc1 _) ?_
        refine V.goto (q := 4) dX3_ring_35 (by decide) ?_
        exact ih c11 _ (by unfold bsK; rw [if_neg (fun h9 => hon (onB_iff.mp h9))]; exact ea)
  exact loop 0 (Nat.zero_le _) 0 rfl

-- never
set_option maxHeartbeats 4000000 in
set_option maxRecDepth 100000 in
theorem m_never {σ : Sg} {n y : Nat} {τ : Nat → Nat → Nat} {fl n2 y2 : Nat} {τ2 : Nat → Nat → Nat} {m : Nat} {cs : Nat → Nat} {rl : Nat} {ro rc : Nat → Nat} (hX : MR σ n y τ fl n2 y2 τ2 m cs rl ro rc) : Con 3 yX3_never cX3_never 3 (some .int) [.ref 43] σ (PI (MP σ n y τ fl n2 y2 τ2 m cs rl ro rc (q_never n τ))) := by
  refine Con.of (by decide) (by simp [Value.category]) (Nat.le_of_ble_eq_true rfl) (fun x hB => ?_)
  show V x RX3 cX3_never 3 0 [some (.ref 43), none, none] [] _
  have hY := hX.now
  have hS := hY.s
  have hn6 := hS.n6
  have hy9 := hX.y9
  refine V.iconst (q := 1) (v := nI 0) dX3_never_0 rfl (by decide +kernel) ?_
  refine V.ist1 (q := 2) dX3_never_1 rfl ?_
  refine V.iconst (q := 3) (v := nI 0) dX3_never_2 rfl (by decide +kernel) ?_
  refine V.ist2 (q := 4) dX3_never_3 rfl ?_
  have loop : ∀ j, j ≤ n → ∀ a, a = bsK (fun i => decide (fedK (τ 5) i n = 0)) j → V x RX3 cX3_never 3 4 [some (.ref 43), some (.int (nI a)), some (.int (nI j))] [] σ := by
    refine down n (fun j hj ih a ea => ?_)
    have ha := bsK_lt (fun i => decide (fedK (τ 5) i n = 0)) j
    rw [← ea] at ha
    have ha6 : 2 ^ j ≤ 2 ^ 6 := Nat.pow_le_pow_right (by decide) (by omega)
    refine V.iload_n (q := 5) dX3_never_4 rfl rfl ?_
    refine V.aload_n (q := 6) dX3_never_5 rfl rfl ?_
    refine V.getR (q := 9) dX3_never_6 rfl kf_X3_13 rfl (by decide) rfl ?_
    refine V.iconst (q := 10) (v := nI 0) dX3_never_9 rfl (by decide +kernel) ?_
    refine V.ialdN (q := 11) dX3_never_10 rfl rfl (by decide) (by omega) (by decide) (SA.c hS) ?_
    refine V.icmpN_ge (t := 38) (q := 14) dX3_never_11 (by decide) rfl (by omega) (by omega) (fun c11 => ?_) (fun c11 => ?_)
    · have ej : n = j := by omega
      subst ej
      refine V.iload_n (q := 39) dX3_never_38 rfl rfl ?_
      exact V.ret_int hB dX3_never_39 rfl ⟨_, rfl, MP.yes hX (hY) (Gz.rf) (by rw [ea]; rfl)⟩
    · have hfe := fedK_le (τ 5) j n
      refine V.iload_n (q := 15) dX3_never_14 rfl rfl ?_
      refine V.aload_n (q := 16) dX3_never_15 rfl rfl ?_
      refine V.iload_n (q := 17) dX3_never_16 rfl rfl ?_
      refine V.cvi1 (q := 20) dX3_never_17 rfl kc_X3_145 rfl (by decide) rfl (hB.rm (by decide)) (Nat.le_of_ble_eq_true rfl) (m_fed hS (i := j) (by omega)) (fun r17 τ17 hp17 => ?_)
      obtain ⟨rfl, hz⟩ := hp17
      rw [hz]
      refine V.ifN_ne (t := 29) (q := 23) dX3_never_20 (by decide) rfl (by omega) (fun c20 => ?_) (fun c20 => ?_)
      · refine V.iconst (q := 30) (v := nI 0) dX3_never_29 rfl (by decide +kernel) ?_
        refine V.ior (q := 31) dX3_never_30 rfl ?_
        rw [ior0_all a (by omega)]
        refine V.ist1 (q := 32) dX3_never_31 rfl ?_
        refine V.inc2 (q := 35) dX3_never_32 rfl (inc1 _) ?_
        refine V.goto (q := 4) dX3_never_35 (by decide) ?_
        exact ih c11 _ (by unfold bsK; rw [if_neg (by simp [c20])]; exact ea)
      · refine V.iconst (q := 24) (v := nI 1) dX3_never_23 rfl (by decide +kernel) ?_
        refine V.iload_n (q := 25) dX3_never_24 rfl rfl ?_
        refine V.ishl (q := 26) dX3_never_25 rfl ?_
        rw [shl1 (show j < 6 by omega)]
        refine V.goto (q := 30) dX3_never_26 (by decide) ?_
        refine V.ior (q := 31) dX3_never_30 rfl ?_
        rw [ior_all j (by omega) a ha]
        refine V.ist1 (q := 32) dX3_never_31 rfl ?_
        refine V.inc2 (q := 35) dX3_never_32 rfl (inc1 _) ?_
        refine V.goto (q := 4) dX3_never_35 (by decide) ?_
        exact ih c11 _ (by unfold bsK; rw [if_pos (by simp [c20]), ea])
  exact loop 0 (Nat.zero_le _) 0 rfl

-- tail
set_option maxHeartbeats 4000000 in
set_option maxRecDepth 100000 in
theorem m_tail {σ : Sg} {n y : Nat} {τ : Nat → Nat → Nat} {fl n2 y2 : Nat} {τ2 : Nat → Nat → Nat} {m : Nat} {cs : Nat → Nat} {rl : Nat} {ro rc : Nat → Nat} (hX : MR σ n y τ fl n2 y2 τ2 m cs rl ro rc) (v : Int32) : Con 4 yX3_tail cX3_tail 4 (some .int) [.ref 43, .int v] σ (PI (MP σ n y τ fl n2 y2 τ2 m cs rl ro rc (q_tail n τ v))) := by
  refine Con.of (by decide) (by simp [Value.category]) (Nat.le_of_ble_eq_true rfl) (fun x hB => ?_)
  show V x RX3 cX3_tail 4 0 [some (.ref 43), some (.int v), none, none] [] _
  have hY := hX.now
  have hS := hY.s
  have hn6 := hS.n6
  have hy9 := hX.y9
  have hme : ∀ a, a < n → τ 5 a < n := fun a h9 => (hS.w a h9).2.2.2.2.2.1
  refine V.aload_n (q := 1) dX3_tail_0 rfl rfl ?_
  refine V.iload_n (q := 2) dX3_tail_1 rfl rfl ?_
  refine V.cvi1 (q := 5) dX3_tail_2 rfl kc_X3_142 rfl (by decide) rfl (hB.rm (by decide)) (Nat.le_of_ble_eq_true rfl) (m_isStreet hS v) (fun r2 τ2 hp2 => ?_)
  obtain ⟨hz, ⟨rfl, k, hk, rfl⟩ | ⟨rfl, hsk⟩⟩ := hp2
  · rw [hz]
    refine V.ifN_ne (t := 14) (q := 8) dX3_tail_5 (by decide) rfl (by omega) (fun c5 => ?_) (fun c5 => absurd c5 (by decide +kernel))
    refine V.iload_n (q := 15) dX3_tail_14 rfl rfl ?_
    refine V.ist2 (q := 16) dX3_tail_15 rfl ?_
    refine V.iconst (q := 17) (v := nI 0) dX3_tail_16 rfl (by decide +kernel) ?_
    refine V.ist3 (q := 18) dX3_tail_17 rfl ?_
    obtain ⟨o, ho⟩ := tail_ex hme hk
    have ho2 := fsK_lt ho
    have loop : ∀ i, i ≤ o → ∀ a, a = itr (τ 5) i k → fsK (fun j => onB n (τ 5) (itr (τ 5) j k)) i = none → V x RX3 cX3_tail 4 18 [some (.ref 43), some (.int (nI k)), some (.int (nI a)), some (.int (nI i))] [] σ := by
      refine down o (fun i hi ih a ea hno => ?_)
      have ha : a < n := by rw [ea]; exact itr_lt hme hk i
      have ha2 := hme a ha
      refine V.aload_n (q := 19) dX3_tail_18 rfl rfl ?_
      refine V.iload_n (q := 20) dX3_tail_19 rfl rfl ?_
      refine V.cvi1 (q := 23) dX3_tail_20 rfl kc_X3_161 rfl (by decide) rfl (hB.rm (by decide)) (Nat.le_of_ble_eq_true rfl) (m_isOnRing hS ha) (fun r20 τ20 hp20 => ?_)
      obtain ⟨hz, ⟨rfl, hon⟩ | ⟨rfl, hon⟩⟩ := hp20
      · rw [hz]
        have hp9 := fsK_y hno (show onB n (τ 5) (itr (τ 5) i k) = true by rw [← ea]; exact onB_iff.mpr hon)
        refine V.ifN_ne (t := 39) (q := 26) dX3_tail_23 (by decide) rfl (by omega) (fun c23 => ?_) (fun c23 => absurd c23 (by decide +kernel))
        refine V.iload_n (q := 40) dX3_tail_39 rfl rfl ?_
        exact V.ret_int hB dX3_tail_40 rfl ⟨_, rfl, MP.yes hX (hY) (Gz.rf) (by simp [q_tail, stN_some hk (Nat.le_trans hn6 (by decide)), fsK_up hp9 (show i + 1 ≤ n by omega)])⟩
      · rw [hz]
        have hp8 : ¬ onB n (τ 5) (itr (τ 5) i k) = true := by rw [← ea]; exact fun h9 => hon (onB_iff.mp h9)
        have hp9 := fsK_n hno hp8
        have hio : i < o := Nat.lt_of_le_of_ne hi (fun e9 => by subst e9; exact hp8 ho2.2)
        refine V.ifN_ne (t := 39) (q := 26) dX3_tail_23 (by decide) rfl (by omega) (fun c23 => absurd c23 (by decide +kernel)) (fun c23 => ?_)
        refine V.aload_n (q := 27) dX3_tail_26 rfl rfl ?_
        refine V.iload_n (q := 28) dX3_tail_27 rfl rfl ?_
        refine V.iconst (q := 29) (v := nI 5) dX3_tail_28 rfl (by decide +kernel) ?_
        refine V.cvi2 (q := 32) dX3_tail_29 rfl kc_X3_109 rfl (by decide) rfl (hB.rm (by decide)) (Nat.le_of_ble_eq_true rfl) (m_get hS (by omega) 5 (by decide)) (fun r29 τ29 hp29 => ?_)
        obtain ⟨rfl, hz⟩ := hp29
        rw [hz]
        refine V.ist2 (q := 33) dX3_tail_32 rfl ?_
        refine V.inc3 (q := 36) dX3_tail_33 rfl (inc1 _) ?_
        refine V.goto (q := 18) dX3_tail_36 (by decide) ?_
        exact ih hio _ (by rw [ea]; rfl) hp9
    exact loop 0 (Nat.zero_le _) k rfl rfl
  · rw [hz]
    refine V.ifN_ne (t := 14) (q := 8) dX3_tail_5 (by decide) rfl (by omega) (fun c5 => absurd c5 (by decide +kernel)) (fun c5 => ?_)
    refine V.aload_n (q := 9) dX3_tail_8 rfl rfl ?_
    refine V.iconst (q := 10) (v := (-1)) dX3_tail_9 rfl (by decide +kernel) ?_
    refine V.cvi1 (q := 13) dX3_tail_10 rfl kc_X3_71 rfl (by decide) rfl (hB.rm (by decide)) (Nat.le_of_ble_eq_true rfl) (m_refuse hX (k := 1) (v := -1) (by decide) (by decide) (by decide +kernel)) (fun r10 τ10 hp10 => ?_)
    obtain ⟨rfl, hz⟩ := hp10
    rw [hz]
    exact V.ret_int hB dX3_tail_13 rfl ⟨_, rfl, MP.no hX (by simp [q_tail, stN_none hsk]) (by decide) (by decide +kernel)⟩

-- rings
set_option maxHeartbeats 4000000 in
set_option maxRecDepth 100000 in
theorem m_rings {σ : Sg} {n y : Nat} {τ : Nat → Nat → Nat} {fl n2 y2 : Nat} {τ2 : Nat → Nat → Nat} {m : Nat} {cs : Nat → Nat} {rl : Nat} {ro rc : Nat → Nat} (hX : MR σ n y τ fl n2 y2 τ2 m cs rl ro rc) : Con 4 yX3_rings cX3_rings 5 (some .int) [.ref 43] σ (PI (MP σ n y τ fl n2 y2 τ2 m cs rl ro rc (q_rings n τ))) := by
  refine Con.of (by decide) (by simp [Value.category]) (Nat.le_of_ble_eq_true rfl) (fun x hB => ?_)
  show V x RX3 cX3_rings 5 0 [some (.ref 43), none, none, none, none] [] _
  have hY := hX.now
  have hS := hY.s
  have hn6 := hS.n6
  have hy9 := hX.y9
  have hme : ∀ a, a < n → τ 5 a < n := fun a h9 => (hS.w a h9).2.2.2.2.2.1
  refine V.iconst (q := 1) (v := nI 0) dX3_rings_0 rfl (by decide +kernel) ?_
  refine V.ist1 (q := 2) dX3_rings_1 rfl ?_
  refine V.iconst (q := 3) (v := nI 0) dX3_rings_2 rfl (by decide +kernel) ?_
  refine V.ist2 (q := 4) dX3_rings_3 rfl ?_
  have loop : ∀ j, j ≤ n → ∀ a, a = cntK (fun i => onB n (τ 5) i && decide (lwK (τ 5) i n = i)) j → ∀ o3 o4, V x RX3 cX3_rings 5 4 [some (.ref 43), some (.int (nI a)), some (.int (nI j)), o3, o4] [] σ := by
    refine down n (fun j hj ih a ea o3 o4 => ?_)
    refine V.iload_n (q := 5) dX3_rings_4 rfl rfl ?_
    refine V.aload_n (q := 6) dX3_rings_5 rfl rfl ?_
    refine V.getR (q := 9) dX3_rings_6 rfl kf_X3_13 rfl (by decide) rfl ?_
    refine V.iconst (q := 10) (v := nI 0) dX3_rings_9 rfl (by decide +kernel) ?_
    refine V.ialdN (q := 11) dX3_rings_10 rfl rfl (by decide) (by omega) (by decide) (SA.c hS) ?_
    refine V.icmpN_ge (t := 82) (q := 14) dX3_rings_11 (by decide) rfl (by omega) (by omega) (fun c11 => ?_) (fun c11 => ?_)
    · have ej : n = j := by omega
      subst ej
      refine V.iload_n (q := 83) dX3_rings_82 rfl rfl ?_
      exact V.ret_int hB dX3_rings_83 rfl ⟨_, rfl, MP.yes hX (hY) (Gz.rf) (by rw [ea]; rfl)⟩
    · refine V.aload_n (q := 15) dX3_rings_14 rfl rfl ?_
      refine V.iload_n (q := 16) dX3_rings_15 rfl rfl ?_
      refine V.cvi1 (q := 19) dX3_rings_16 rfl kc_X3_161 rfl (by decide) rfl (hB.rm (by decide)) (Nat.le_of_ble_eq_true rfl) (m_isOnRing hS c11) (fun r16 τ16 hp16 => ?_)
      obtain ⟨hz, hor⟩ := hp16
      rw [hz]
      have hb0 : ∃ b, r16 = nI b ∧ ((b = 1 ∧ onR n (τ 5) j ∧ ∀ q, q < 0 → ¬ (onR n (τ 5) q ∧ ¬ wyK (τ 5) q j = none)) ∨ (b = 0 ∧ ¬ (onR n (τ 5) j ∧ lwK (τ 5) j n = j))) := by
        rcases hor with ⟨h8, h9⟩ | ⟨h8, h9⟩
        · exact ⟨1, h8, Or.inl ⟨rfl, h9, fun q hq => absurd hq (by omega)⟩⟩
        · exact ⟨0, h8, Or.inr ⟨rfl, fun h7 => h9 h7.1⟩⟩
      obtain ⟨b0, hrb, hb0⟩ := hb0
      rw [hrb]
      refine V.ist3 (q := 20) dX3_rings_19 rfl ?_
      refine V.iconst (q := 21) (v := nI 0) dX3_rings_20 rfl (by decide +kernel) ?_
      refine V.ist4 (q := 23) dX3_rings_21 rfl ?_
      have loop2 : ∀ o, o ≤ j → ∀ b, ((b = 1 ∧ onR n (τ 5) j ∧ ∀ q, q < o → ¬ (onR n (τ 5) q ∧ ¬ wyK (τ 5) q j = none)) ∨ (b = 0 ∧ ¬ (onR n (τ 5) j ∧ lwK (τ 5) j n = j))) → V x RX3 cX3_rings 5 23 [some (.ref 43), some (.int (nI a)), some (.int (nI j)), some (.int (nI b)), some (.int (nI o))] [] σ := by
        refine down j (fun o ho ih2 b hb => ?_)
        rcases hb with ⟨rfl, hon, hall⟩ | ⟨rfl, hno⟩
        · skip
          refine V.iload (q := 25) dX3_rings_23 rfl rfl ?_
          refine V.iload_n (q := 26) dX3_rings_25 rfl rfl ?_
          refine V.icmpN_ge (t := 64) (q := 29) dX3_rings_26 (by decide) rfl (by omega) (by omega) (fun c26 => ?_) (fun c26 => ?_)
          · have eo : o = j := by omega
            subst eo
            have hlw := (ring_least hn6 hme c11 hon).mpr hall
            refine V.iload_n (q := 65) dX3_rings_64 rfl rfl ?_
            refine V.iload_n (q := 66) dX3_rings_65 rfl rfl ?_
            refine V.ifN_eq (t := 73) (q := 69) dX3_rings_66 (by decide) rfl (by omega) (fun c66 => absurd c66 (by decide +kernel)) (fun c66 => ?_)
            refine V.iconst (q := 70) (v := nI 1) dX3_rings_69 rfl (by decide +kernel) ?_
            refine V.goto (q := 74) dX3_rings_70 (by decide) ?_
            refine V.iaddN (q := 75) dX3_rings_74 rfl ?_
            refine V.ist1 (q := 76) dX3_rings_75 rfl ?_
            refine V.inc2 (q := 79) dX3_rings_76 rfl (inc1 _) ?_
            refine V.goto (q := 4) dX3_rings_79 (by decide) ?_
            exact ih c11 _ (by unfold cntK; rw [if_pos (by simp [onB_iff.mpr hon, hlw]), ea]) _ _
          · refine V.iload_n (q := 30) dX3_rings_29 rfl rfl ?_
            refine V.ifN_eq (t := 56) (q := 33) dX3_rings_30 (by decide) rfl (by omega) (fun c30 => absurd c30 (by decide +kernel)) (fun c30 => ?_)
            refine V.aload_n (q := 34) dX3_rings_33 rfl rfl ?_
            refine V.iload (q := 36) dX3_rings_34 rfl rfl ?_
            refine V.cvi1 (q := 39) dX3_rings_36 rfl kc_X3_161 rfl (by decide) rfl (hB.rm (by decide)) (Nat.le_of_ble_eq_true rfl) (m_isOnRing hS (show o < n by omega)) (fun r36 τ36 hp36 => ?_)
            obtain ⟨hz, ⟨rfl, hoo⟩ | ⟨rfl, hoo⟩⟩ := hp36
            · rw [hz]
              refine V.ifN_eq (t := 52) (q := 42) dX3_rings_39 (by decide) rfl (by omega) (fun c39 => absurd c39 (by decide +kernel)) (fun c39 => ?_)
              refine V.aload_n (q := 43) dX3_rings_42 rfl rfl ?_
              refine V.iload (q := 45) dX3_rings_43 rfl rfl ?_
              refine V.iload_n (q := 46) dX3_rings_45 rfl rfl ?_
              refine V.cvi2 (q := 49) dX3_rings_46 rfl kc_X3_158 rfl (by decide) rfl (hB.rm (by decide)) (Nat.le_of_ble_eq_true rfl) (m_wayOf hS (show o < n by omega) c11) (fun r46 τ46 hp46 => ?_)
              obtain ⟨rfl, hz⟩ := hp46
              rw [hz]
              rcases hw9 : wyK (τ 5) o j with _ | q9
              · skip
                refine V.if_ge (t := 56) (q := 52) dX3_rings_49 (by decide) rfl  (fun c49 => absurd c49 (by decide +kernel)) (fun c49 => ?_)
                refine V.iconst (q := 53) (v := nI 1) dX3_rings_52 rfl (by decide +kernel) ?_
                refine V.goto (q := 57) dX3_rings_53 (by decide) ?_
                refine V.ist3 (q := 58) dX3_rings_57 rfl ?_
                refine V.inc4 (q := 61) dX3_rings_58 rfl (inc1 _) ?_
                refine V.goto (q := 23) dX3_rings_61 (by decide) ?_
                exact ih2 c26 _ (Or.inl ⟨rfl, hon, fun q hq => by
                  rcases Nat.lt_or_ge q o with h8 | h8
                  · exact hall q h8
                  · have : q = o := by omega
                    subst this
                    exact fun h9 => h9.2 hw9⟩)
              · have hq9 := (fsK_lt hw9).1
                refine V.if_ge (t := 56) (q := 52) dX3_rings_49 (by decide) rfl  (fun c49 => ?_) (fun c49 => absurd c49 (fun h9 => h9 (Int32.not_lt.mp (nI_pos (by omega)))))
                refine V.iconst (q := 57) (v := nI 0) dX3_rings_56 rfl (by decide +kernel) ?_
                refine V.ist3 (q := 58) dX3_rings_57 rfl ?_
                refine V.inc4 (q := 61) dX3_rings_58 rfl (inc1 _) ?_
                refine V.goto (q := 23) dX3_rings_61 (by decide) ?_
                exact ih2 c26 _ (Or.inr ⟨rfl, fun h9 => (ring_least hn6 hme c11 hon).mp h9.2 o c26 ⟨hoo, by rw [hw9]; simp⟩⟩)
            · rw [hz]
              refine V.ifN_eq (t := 52) (q := 42) dX3_rings_39 (by decide) rfl (by omega) (fun c39 => ?_) (fun c39 => absurd c39 (by decide +kernel))
              refine V.iconst (q := 53) (v := nI 1) dX3_rings_52 rfl (by decide +kernel) ?_
              refine V.goto (q := 57) dX3_rings_53 (by decide) ?_
              refine V.ist3 (q := 58) dX3_rings_57 rfl ?_
              refine V.inc4 (q := 61) dX3_rings_58 rfl (inc1 _) ?_
              refine V.goto (q := 23) dX3_rings_61 (by decide) ?_
              exact ih2 c26 _ (Or.inl ⟨rfl, hon, fun q hq => by
                rcases Nat.lt_or_ge q o with h8 | h8
                · exact hall q h8
                · have : q = o := by omega
                  subst this
                  exact fun h9 => hoo h9.1⟩)
        · skip
          refine V.iload (q := 25) dX3_rings_23 rfl rfl ?_
          refine V.iload_n (q := 26) dX3_rings_25 rfl rfl ?_
          refine V.icmpN_ge (t := 64) (q := 29) dX3_rings_26 (by decide) rfl (by omega) (by omega) (fun c26 => ?_) (fun c26 => ?_)
          · have eo : o = j := by omega
            subst eo
            refine V.iload_n (q := 65) dX3_rings_64 rfl rfl ?_
            refine V.iload_n (q := 66) dX3_rings_65 rfl rfl ?_
            refine V.ifN_eq (t := 73) (q := 69) dX3_rings_66 (by decide) rfl (by omega) (fun c66 => ?_) (fun c66 => absurd c66 (by decide +kernel))
            refine V.iconst (q := 74) (v := nI 0) dX3_rings_73 rfl (by decide +kernel) ?_
            refine V.iaddN (q := 75) dX3_rings_74 rfl ?_
            refine V.ist1 (q := 76) dX3_rings_75 rfl ?_
            refine V.inc2 (q := 79) dX3_rings_76 rfl (inc1 _) ?_
            refine V.goto (q := 4) dX3_rings_79 (by decide) ?_
            exact ih c11 _ (by unfold cntK; rw [if_neg (by simp; intro h9 h8; exact hno ⟨onB_iff.mp h9, h8⟩)]; exact ea) _ _
          · refine V.iload_n (q := 30) dX3_rings_29 rfl rfl ?_
            refine V.ifN_eq (t := 56) (q := 33) dX3_rings_30 (by decide) rfl (by omega) (fun c30 => ?_) (fun c30 => absurd c30 (by decide +kernel))
            refine V.iconst (q := 57) (v := nI 0) dX3_rings_56 rfl (by decide +kernel) ?_
            refine V.ist3 (q := 58) dX3_rings_57 rfl ?_
            refine V.inc4 (q := 61) dX3_rings_58 rfl (inc1 _) ?_
            refine V.goto (q := 23) dX3_rings_61 (by decide) ?_
            exact ih2 c26 _ (Or.inr ⟨rfl, hno⟩)
      exact loop2 0 (Nat.zero_le _) _ hb0
  exact loop 0 (Nat.zero_le _) 0 rfl _ _

-- felt
set_option maxHeartbeats 4000000 in
set_option maxRecDepth 100000 in
theorem m_felt {σ : Sg} {n y : Nat} {τ : Nat → Nat → Nat} {fl n2 y2 : Nat} {τ2 : Nat → Nat → Nat} {m : Nat} {cs : Nat → Nat} {rl : Nat} {ro rc : Nat → Nat} (hX : MR σ n y τ fl n2 y2 τ2 m cs rl ro rc) (v : Int32) (w : Int32) : Con 6 yX3_felt cX3_felt 5 (some .int) [.ref 43, .int v, .int w] σ (PI (MP σ n y τ fl n2 y2 τ2 m cs rl ro rc (q_felt n y τ v w))) := by
  refine Con.of (by decide) (by simp [Value.category]) (Nat.le_of_ble_eq_true rfl) (fun x hB => ?_)
  show V x RX3 cX3_felt 5 0 [some (.ref 43), some (.int v), some (.int w), none, none] [] _
  have hY := hX.now
  have hS := hY.s
  have hn6 := hS.n6
  have hy9 := hX.y9
  refine V.aload_n (q := 1) dX3_felt_0 rfl rfl ?_
  refine V.iload_n (q := 2) dX3_felt_1 rfl rfl ?_
  refine V.cvi1 (q := 5) dX3_felt_2 rfl kc_X3_142 rfl (by decide) rfl (hB.rm (by decide)) (Nat.le_of_ble_eq_true rfl) (m_isStreet hS v) (fun r2 τ2 hp2 => ?_)
  obtain ⟨hz, ⟨rfl, k, hk, rfl⟩ | ⟨rfl, hsk⟩⟩ := hp2
  · rw [hz]
    refine V.ifN_eq (t := 16) (q := 8) dX3_felt_5 (by decide) rfl (by omega) (fun c5 => absurd c5 (by decide +kernel)) (fun c5 => ?_)
    refine V.aload_n (q := 9) dX3_felt_8 rfl rfl ?_
    refine V.iload_n (q := 10) dX3_felt_9 rfl rfl ?_
    refine V.cvi1 (q := 13) dX3_felt_10 rfl kc_X3_142 rfl (by decide) rfl (hB.rm (by decide)) (Nat.le_of_ble_eq_true rfl) (m_isStreet hS w) (fun r10 τ10 hp10 => ?_)
    obtain ⟨hz, ⟨rfl, o, ho, rfl⟩ | ⟨rfl, hso⟩⟩ := hp10
    · rw [hz]
      refine V.ifN_ne (t := 22) (q := 16) dX3_felt_13 (by decide) rfl (by omega) (fun c13 => ?_) (fun c13 => absurd c13 (by decide +kernel))
      refine V.aload_n (q := 23) dX3_felt_22 rfl rfl ?_
      refine V.cvv0 (q := 26) dX3_felt_23 rfl kc_X3_152 rfl (by decide) rfl (hB.rm (by decide)) (Nat.le_of_ble_eq_true rfl) (m_begins hS) (fun τ23 hp23 => ?_)
      obtain ⟨hM1, hS1, hF1⟩ := hp23
      have hG1 := Gz.rf.c hF1 (by decide)
      have hY1 : YA τ23 n y 6 6 τ := ⟨hS1, by rw [hF1 43 (by decide)]; exact hY.2⟩
      refine V.iconst (q := 27) (v := nI 1) dX3_felt_26 rfl (by decide +kernel) ?_
      refine V.ist3 (q := 28) dX3_felt_27 rfl ?_
      have loop : ∀ i, i ≤ 40 → ∀ σ1, YA σ1 n (y + i) 6 6 (yM n y τ i) → SA σ1 48 n y τ → Gz σ σ1 → (∀ q, q < i → σ1 53 (q + 1) = nI (yM n y τ (q + 1) 1 o)) → V x RX3 cX3_felt 5 28 [some (.ref 43), some (.int (nI k)), some (.int (nI o)), some (.int (nI (i + 1))), none] [] σ1 := by
        refine down 40 (fun i hi ih σ1 hY1 hM1 hG1 hmu => ?_)
        refine V.iload_n (q := 29) dX3_felt_28 rfl rfl ?_
        refine V.bipush (q := 31) (v := nI 40) dX3_felt_29 rfl (by decide +kernel) ?_
        refine V.icmpN_gt (t := 56) (q := 34) dX3_felt_31 (by decide) rfl (by omega) (by omega) (fun c31 => ?_) (fun c31 => ?_)
        · have ei : i = 40 := by omega
          subst ei
          refine V.aload_n (q := 57) dX3_felt_56 rfl rfl ?_
          refine V.cvv0 (q := 60) dX3_felt_57 rfl kc_X3_139 rfl (by decide) rfl (hB.rm (by decide)) (Nat.le_of_ble_eq_true rfl) (m_ends hM1) (fun τ57 hp57 => ?_)
          obtain ⟨hS3, hM3, hF3⟩ := hp57
          have hY3 : YA τ57 n y 6 6 τ := ⟨hS3, by rw [hF3 43 (by decide)]; exact hY1.2⟩
          have hG3 := hG1.c hF3 (by decide)
          refine V.aload_n (q := 61) dX3_felt_60 rfl rfl ?_
          refine V.iload_n (q := 62) dX3_felt_61 rfl rfl ?_
          refine V.putI (q := 65) dX3_felt_62 rfl kp_X3_25 rfl (by decide) rfl rfl rfl ?_
          have hY5 := hY3.wz (z2 := k)
          rw [n9_in (by omega)] at hY5
          have hM5 := hM3.ww (o1 := 43) (k := 6) (v := nI k) (by decide)
          have hG5 := hG3.w3 (k := 6) (v := nI k) (Or.inl rfl)
          have hmu5 : ∀ q, q < 40 → w2 τ57 43 6 (nI k) 53 (q + 1) = nI (yM n y τ (q + 1) 1 o) := fun q hq => by rw [w2_ne (by decide), hF3 53 (by decide)]; exact hmu q hq
          refine V.bipush (q := 67) (v := (-9)) dX3_felt_65 rfl (by decide +kernel) ?_
          refine V.ist3 (q := 68) dX3_felt_67 rfl ?_
          refine V.iconst (q := 69) (v := nI 1) dX3_felt_68 rfl (by decide +kernel) ?_
          refine V.ist4 (q := 71) dX3_felt_69 rfl ?_
          have loop2 : ∀ i, i ≤ 40 → ∀ σ1 (v : Int32) y1 τ1, YA σ1 n y1 k 6 τ1 → SA σ1 48 n y τ → Gz σ σ1 → (∀ q, q < 40 → σ1 53 (q + 1) = nI (yM n y τ (q + 1) 1 o)) → ((y1 = y + i ∧ τ1 = yrsM n y k 6 τ i ∧ v = -9 ∧ fsK (fun j => decide (yrsM n y k 6 τ (j + 1) 1 o ≠ yM n y τ (j + 1) 1 o)) i = none) ∨ (∃ q, v = nI (q + 1) ∧ q < 40 ∧ fsK (fun j => decide (yrsM n y k 6 τ (j + 1) 1 o ≠ yM n y τ (j + 1) 1 o)) 40 = some q)) → V x RX3 cX3_felt 5 71 [some (.ref 43), some (.int (nI k)), some (.int (nI o)), some (.int v), some (.int (nI (i + 1)))] [] σ1 := by
            refine down 40 (fun i hi ih σ1 v y1 τ1 hY1 hM1 hG1 hmu1 hv => ?_)
            rcases hv with ⟨rfl, rfl, rfl, hno⟩ | ⟨q, rfl, hq, hso⟩
            · skip
              refine V.iload (q := 73) dX3_felt_71 rfl rfl ?_
              refine V.bipush (q := 75) (v := nI 40) dX3_felt_73 rfl (by decide +kernel) ?_
              refine V.icmpN_gt (t := 116) (q := 78) dX3_felt_75 (by decide) rfl (by omega) (by omega) (fun c75 => ?_) (fun c75 => ?_)
              · have ei : i = 40 := by omega
                subst ei
                refine V.aload_n (q := 117) dX3_felt_116 rfl rfl ?_
                refine V.bipush (q := 119) (v := (-9)) dX3_felt_117 rfl (by decide +kernel) ?_
                refine V.putI (q := 122) dX3_felt_119 rfl kp_X3_25 rfl (by decide) rfl rfl rfl ?_
                have hY6 := hY1.wz (z2 := 6)
                rw [show n9 6 = -9 from rfl] at hY6
                have hM6 := hM1.ww (o1 := 43) (k := 6) (v := -9) (by decide)
                have hG6 := hG1.w3 (k := 6) (v := -9) (Or.inl rfl)
                refine V.aload_n (q := 123) dX3_felt_122 rfl rfl ?_
                refine V.cvv0 (q := 126) dX3_felt_123 rfl kc_X3_139 rfl (by decide) rfl (hB.rm (by decide)) (Nat.le_of_ble_eq_true rfl) (m_ends hM6) (fun τ123 hp123 => ?_)
                obtain ⟨hS7, hM7, hF7⟩ := hp123
                have hY7 : YA τ123 n y 6 6 τ := ⟨hS7, by rw [hF7 43 (by decide)]; exact hY6.2⟩
                have hG7 := hG6.c hF7 (by decide)
                refine V.iload_n (q := 127) dX3_felt_126 rfl rfl ?_
                exact V.ret_int hB dX3_felt_127 rfl ⟨_, rfl, MP.yes hX (hY7) (hG7) (by unfold q_felt; simp only [stN_some hk (Nat.le_trans hn6 (by decide)), stN_some ho (Nat.le_trans hn6 (by decide))]; rw [hno]; rfl)⟩
              · refine V.iload_n (q := 79) dX3_felt_78 rfl rfl ?_
                refine V.if_ge (t := 116) (q := 82) dX3_felt_79 (by decide) rfl  (fun c79 => absurd c79 (by decide +kernel)) (fun c79 => ?_)
                refine V.aload_n (q := 83) dX3_felt_82 rfl rfl ?_
                refine V.cvv0 (q := 86) dX3_felt_83 rfl kc_X3_127 rfl (by decide) rfl (hB.rm (by decide)) (Nat.le_of_ble_eq_true rfl) (m_goes hY1 (by omega)) (fun τ83 hp83 => ?_)
                obtain ⟨hY2, hF2⟩ := hp83
                have hM2 := hM1.fr (hF2 48 (by decide) (by decide))
                have hG2 := hG1.y hF2
                have hS2 := hY2.s
                have hmu2 : ∀ q, q < 40 → τ83 53 (q + 1) = nI (yM n y τ (q + 1) 1 o) := fun q hq => by rw [hF2 53 (by decide) (by decide)]; exact hmu1 q hq
                have b1 := (hS2.w o ho).2.1
                have b2 : yM n y τ (i + 1) 1 o ≤ 9 := (yrsM_wf hn6 hS.w (i + 1) o ho).2.1
                refine V.aload_n (q := 87) dX3_felt_86 rfl rfl ?_
                refine V.iload_n (q := 88) dX3_felt_87 rfl rfl ?_
                refine V.iconst (q := 89) (v := nI 1) dX3_felt_88 rfl (by decide +kernel) ?_
                refine V.cvi2 (q := 92) dX3_felt_89 rfl kc_X3_109 rfl (by decide) rfl (hB.rm (by decide)) (Nat.le_of_ble_eq_true rfl) (m_get hS2 ho 1 (by decide)) (fun r89 τ89 hp89 => ?_)
                obtain ⟨rfl, hz⟩ := hp89
                rw [hz]
                refine V.aload_n (q := 93) dX3_felt_92 rfl rfl ?_
                refine V.getR (q := 96) dX3_felt_93 rfl kf_X3_44 rfl (by decide) rfl ?_
                refine V.iload (q := 98) dX3_felt_96 rfl rfl ?_
                refine V.ialdN (q := 99) dX3_felt_98 rfl rfl (by decide) (by omega) (by decide) (hmu2 i (by omega)) ?_
                refine V.icmpN_eq (t := 107) (q := 102) dX3_felt_99 (by decide) rfl (by omega) (by omega) (fun c99 => ?_) (fun c99 => ?_)
                · have hp9 := fsK_n hno (show ¬ decide (yrsM n y k 6 τ (i + 1) 1 o ≠ yM n y τ (i + 1) 1 o) = true from fun h9 => absurd c99 (of_decide_eq_true h9))
                  refine V.bipush (q := 109) (v := (-9)) dX3_felt_107 rfl (by decide +kernel) ?_
                  refine V.ist3 (q := 110) dX3_felt_109 rfl ?_
                  refine V.inc4 (q := 113) dX3_felt_110 rfl (inc1 _) ?_
                  refine V.goto (q := 71) dX3_felt_113 (by decide) ?_
                  exact ih (by omega) _ _ _ _ hY2 hM2 hG2 hmu2 (Or.inl ⟨rfl, rfl, rfl, hp9⟩)
                · have hp9 := fsK_y hno (show decide (yrsM n y k 6 τ (i + 1) 1 o ≠ yM n y τ (i + 1) 1 o) = true from decide_eq_true c99)
                  refine V.iload (q := 104) dX3_felt_102 rfl rfl ?_
                  refine V.goto (q := 109) dX3_felt_104 (by decide) ?_
                  refine V.ist3 (q := 110) dX3_felt_109 rfl ?_
                  refine V.inc4 (q := 113) dX3_felt_110 rfl (inc1 _) ?_
                  refine V.goto (q := 71) dX3_felt_113 (by decide) ?_
                  exact ih (by omega) _ _ _ _ hY2 hM2 hG2 hmu2 (Or.inr ⟨i, rfl, by omega, fsK_up hp9 (show i + 1 ≤ 40 by omega)⟩)
            · skip
              refine V.iload (q := 73) dX3_felt_71 rfl rfl ?_
              refine V.bipush (q := 75) (v := nI 40) dX3_felt_73 rfl (by decide +kernel) ?_
              refine V.icmpN_gt (t := 116) (q := 78) dX3_felt_75 (by decide) rfl (by omega) (by omega) (fun c75 => ?_) (fun c75 => ?_)
              · refine V.aload_n (q := 117) dX3_felt_116 rfl rfl ?_
                refine V.bipush (q := 119) (v := (-9)) dX3_felt_117 rfl (by decide +kernel) ?_
                refine V.putI (q := 122) dX3_felt_119 rfl kp_X3_25 rfl (by decide) rfl rfl rfl ?_
                have hY6 := hY1.wz (z2 := 6)
                rw [show n9 6 = -9 from rfl] at hY6
                have hM6 := hM1.ww (o1 := 43) (k := 6) (v := -9) (by decide)
                have hG6 := hG1.w3 (k := 6) (v := -9) (Or.inl rfl)
                refine V.aload_n (q := 123) dX3_felt_122 rfl rfl ?_
                refine V.cvv0 (q := 126) dX3_felt_123 rfl kc_X3_139 rfl (by decide) rfl (hB.rm (by decide)) (Nat.le_of_ble_eq_true rfl) (m_ends hM6) (fun τ123 hp123 => ?_)
                obtain ⟨hS7, hM7, hF7⟩ := hp123
                have hY7 : YA τ123 n y 6 6 τ := ⟨hS7, by rw [hF7 43 (by decide)]; exact hY6.2⟩
                have hG7 := hG6.c hF7 (by decide)
                refine V.iload_n (q := 127) dX3_felt_126 rfl rfl ?_
                exact V.ret_int hB dX3_felt_127 rfl ⟨_, rfl, MP.yes hX (hY7) (hG7) (by unfold q_felt; simp only [stN_some hk (Nat.le_trans hn6 (by decide)), stN_some ho (Nat.le_trans hn6 (by decide))]; rw [hso]; rfl)⟩
              · refine V.iload_n (q := 79) dX3_felt_78 rfl rfl ?_
                refine V.ifN_ge (t := 116) (q := 82) dX3_felt_79 (by decide) rfl (by omega) (fun c79 => ?_) (fun c79 => absurd c79 (by omega))
                refine V.aload_n (q := 117) dX3_felt_116 rfl rfl ?_
                refine V.bipush (q := 119) (v := (-9)) dX3_felt_117 rfl (by decide +kernel) ?_
                refine V.putI (q := 122) dX3_felt_119 rfl kp_X3_25 rfl (by decide) rfl rfl rfl ?_
                have hY6 := hY1.wz (z2 := 6)
                rw [show n9 6 = -9 from rfl] at hY6
                have hM6 := hM1.ww (o1 := 43) (k := 6) (v := -9) (by decide)
                have hG6 := hG1.w3 (k := 6) (v := -9) (Or.inl rfl)
                refine V.aload_n (q := 123) dX3_felt_122 rfl rfl ?_
                refine V.cvv0 (q := 126) dX3_felt_123 rfl kc_X3_139 rfl (by decide) rfl (hB.rm (by decide)) (Nat.le_of_ble_eq_true rfl) (m_ends hM6) (fun τ123 hp123 => ?_)
                obtain ⟨hS7, hM7, hF7⟩ := hp123
                have hY7 : YA τ123 n y 6 6 τ := ⟨hS7, by rw [hF7 43 (by decide)]; exact hY6.2⟩
                have hG7 := hG6.c hF7 (by decide)
                refine V.iload_n (q := 127) dX3_felt_126 rfl rfl ?_
                exact V.ret_int hB dX3_felt_127 rfl ⟨_, rfl, MP.yes hX (hY7) (hG7) (by unfold q_felt; simp only [stN_some hk (Nat.le_trans hn6 (by decide)), stN_some ho (Nat.le_trans hn6 (by decide))]; rw [hso]; rfl)⟩
          exact loop2 0 (by decide) _ _ _ _ hY5 hM5 hG5 hmu5 (Or.inl ⟨rfl, rfl, rfl, rfl⟩)
        · refine V.aload_n (q := 35) dX3_felt_34 rfl rfl ?_
          refine V.cvv0 (q := 38) dX3_felt_35 rfl kc_X3_127 rfl (by decide) rfl (hB.rm (by decide)) (Nat.le_of_ble_eq_true rfl) (m_goes hY1 (by omega)) (fun τ35 hp35 => ?_)
          obtain ⟨hY2, hF2⟩ := hp35
          have hM2 := hM1.fr (hF2 48 (by decide) (by decide))
          have hG2 := hG1.y hF2
          have hS2 := hY2.s
          refine V.aload_n (q := 39) dX3_felt_38 rfl rfl ?_
          refine V.getR (q := 42) dX3_felt_39 rfl kf_X3_44 rfl (by decide) rfl ?_
          refine V.iload_n (q := 43) dX3_felt_42 rfl rfl ?_
          refine V.aload_n (q := 44) dX3_felt_43 rfl rfl ?_
          refine V.iload_n (q := 45) dX3_felt_44 rfl rfl ?_
          refine V.iconst (q := 46) (v := nI 1) dX3_felt_45 rfl (by decide +kernel) ?_
          refine V.cvi2 (q := 49) dX3_felt_46 rfl kc_X3_109 rfl (by decide) rfl (hB.rm (by decide)) (Nat.le_of_ble_eq_true rfl) (m_get hS2 ho 1 (by decide)) (fun r46 τ46 hp46 => ?_)
          obtain ⟨rfl, hz⟩ := hp46
          rw [hz]
          refine V.iastN (q := 50) dX3_felt_49 rfl rfl (by decide) (by omega) (by decide) ?_
          refine V.inc3 (q := 53) dX3_felt_50 rfl (inc1 _) ?_
          refine V.goto (q := 28) dX3_felt_53 (by decide) ?_
          refine ih (by omega) _ (hY2.ww (by decide) (by decide)) (hM2.ww (by decide)) (hG2.w (by decide)) (fun q hq => ?_)
          rw [w2_rd]
          by_cases h9 : q = i
          · subst h9; rw [if_pos ⟨rfl, rfl⟩]; rfl
          · rw [if_neg (fun h8 => h9 (by omega)), hF2 53 (by decide) (by decide)]; exact hmu q (by omega)
      exact loop 0 (by decide) _ hY1 hM1 hG1 (fun q hq => absurd hq (by omega))
    · rw [hz]
      refine V.ifN_ne (t := 22) (q := 16) dX3_felt_13 (by decide) rfl (by omega) (fun c13 => absurd c13 (by decide +kernel)) (fun c13 => ?_)
      refine V.aload_n (q := 17) dX3_felt_16 rfl rfl ?_
      refine V.iconst (q := 18) (v := (-1)) dX3_felt_17 rfl (by decide +kernel) ?_
      refine V.cvi1 (q := 21) dX3_felt_18 rfl kc_X3_71 rfl (by decide) rfl (hB.rm (by decide)) (Nat.le_of_ble_eq_true rfl) (m_refuse hX (k := 1) (v := -1) (by decide) (by decide) (by decide +kernel)) (fun r18 τ18 hp18 => ?_)
      obtain ⟨rfl, hz⟩ := hp18
      rw [hz]
      exact V.ret_int hB dX3_felt_21 rfl ⟨_, rfl, MP.no hX (by simp [q_felt, stN_some hk (Nat.le_trans hn6 (by decide)), stN_none hso]) (by decide) (by decide +kernel)⟩
  · rw [hz]
    refine V.ifN_eq (t := 16) (q := 8) dX3_felt_5 (by decide) rfl (by omega) (fun c5 => ?_) (fun c5 => absurd c5 (by decide +kernel))
    refine V.aload_n (q := 17) dX3_felt_16 rfl rfl ?_
    refine V.iconst (q := 18) (v := (-1)) dX3_felt_17 rfl (by decide +kernel) ?_
    refine V.cvi1 (q := 21) dX3_felt_18 rfl kc_X3_71 rfl (by decide) rfl (hB.rm (by decide)) (Nat.le_of_ble_eq_true rfl) (m_refuse hX (k := 1) (v := -1) (by decide) (by decide) (by decide +kernel)) (fun r18 τ18 hp18 => ?_)
    obtain ⟨rfl, hz⟩ := hp18
    rw [hz]
    exact V.ret_int hB dX3_felt_21 rfl ⟨_, rfl, MP.no hX (by simp [q_felt, stN_none hsk]) (by decide) (by decide +kernel)⟩

-- worth
set_option maxHeartbeats 4000000 in
set_option maxRecDepth 100000 in
theorem m_worth {σ : Sg} {n y : Nat} {τ : Nat → Nat → Nat} {fl n2 y2 : Nat} {τ2 : Nat → Nat → Nat} {m : Nat} {cs : Nat → Nat} {rl : Nat} {ro rc : Nat → Nat} (hX : MR σ n y τ fl n2 y2 τ2 m cs rl ro rc) (v : Int32) (w : Int32) : Con 7 yX3_worth cX3_worth 6 (some .int) [.ref 43, .int v, .int w] σ (PI (MW σ n y τ fl n2 y2 τ2 m cs rl ro rc (q_worth n y τ v w))) := by
  refine Con.of (by decide) (by simp [Value.category]) (Nat.le_of_ble_eq_true rfl) (fun x hB => ?_)
  show V x RX3 cX3_worth 6 0 [some (.ref 43), some (.int v), some (.int w), none, none, none] [] _
  have hY := hX.now
  have hS := hY.s
  have hn6 := hS.n6
  have hy9 := hX.y9
  refine V.aload_n (q := 1) dX3_worth_0 rfl rfl ?_
  refine V.iload_n (q := 2) dX3_worth_1 rfl rfl ?_
  refine V.cvi1 (q := 5) dX3_worth_2 rfl kc_X3_142 rfl (by decide) rfl (hB.rm (by decide)) (Nat.le_of_ble_eq_true rfl) (m_isStreet hS v) (fun r2 τ2 hp2 => ?_)
  obtain ⟨hz, ⟨rfl, k, hk, rfl⟩ | ⟨rfl, hsk⟩⟩ := hp2
  · rw [hz]
    refine V.ifN_eq (t := 18) (q := 8) dX3_worth_5 (by decide) rfl (by omega) (fun c5 => absurd c5 (by decide +kernel)) (fun c5 => ?_)
    refine V.iload_n (q := 9) dX3_worth_8 rfl rfl ?_
    refine V.iconst (q := 10) (v := nI 0) dX3_worth_9 rfl (by decide +kernel) ?_
    refine V.bipush (q := 12) (v := nI 60) dX3_worth_10 rfl (by decide +kernel) ?_
    refine V.csi3 (q := 15) dX3_worth_12 rfl kc_X3_64 (hB.rm (by decide)) (Nat.le_of_ble_eq_true rfl) (m_within w 0 60 (by decide) (by decide)) (fun r12 τ12 hp12 => ?_)
    obtain ⟨hz, ⟨hrf, rfl⟩ | ⟨hrf, rfl⟩ | ⟨rfl, j, hj1, hj2, rfl⟩⟩ := hp12
    · rw [hz]
      refine V.goto (q := 19) dX3_worth_15 (by decide) ?_
      refine V.ist3 (q := 20) dX3_worth_19 rfl ?_
      refine V.iload_n (q := 21) dX3_worth_20 rfl rfl ?_
      refine V.if_eq (t := 33) (q := 24) dX3_worth_21 (by decide) rfl  (fun c21 => absurd c21 (by decide +kernel)) (fun c21 => ?_)
      refine V.ldc (q := 26) dX3_worth_24 rfl kk_X3_164 ?_
      refine V.aload_n (q := 27) dX3_worth_26 rfl rfl ?_
      refine V.iload_n (q := 28) dX3_worth_27 rfl rfl ?_
      refine V.cvi1 (q := 31) dX3_worth_28 rfl kc_X3_71 rfl (by decide) rfl (hB.rm (by decide)) (Nat.le_of_ble_eq_true rfl) (m_refuse hX (k := 4) (v := -4) (by decide) (by decide) (by decide +kernel)) (fun r28 τ28 hp28 => ?_)
      obtain ⟨rfl, hz⟩ := hp28
      rw [hz]
      refine V.isub (q := 32) dX3_worth_31 rfl ?_
      exact V.ret_int hB dX3_worth_32 rfl ⟨_, rfl, MW.no hX (by simp [q_worth, stN_some hk (Nat.le_trans hn6 (by decide)), rfq_4 hrf]) (by decide) (by decide +kernel)⟩
    · rw [hz]
      refine V.goto (q := 19) dX3_worth_15 (by decide) ?_
      refine V.ist3 (q := 20) dX3_worth_19 rfl ?_
      refine V.iload_n (q := 21) dX3_worth_20 rfl rfl ?_
      refine V.if_eq (t := 33) (q := 24) dX3_worth_21 (by decide) rfl  (fun c21 => absurd c21 (by decide +kernel)) (fun c21 => ?_)
      refine V.ldc (q := 26) dX3_worth_24 rfl kk_X3_164 ?_
      refine V.aload_n (q := 27) dX3_worth_26 rfl rfl ?_
      refine V.iload_n (q := 28) dX3_worth_27 rfl rfl ?_
      refine V.cvi1 (q := 31) dX3_worth_28 rfl kc_X3_71 rfl (by decide) rfl (hB.rm (by decide)) (Nat.le_of_ble_eq_true rfl) (m_refuse hX (k := 6) (v := -6) (by decide) (by decide) (by decide +kernel)) (fun r28 τ28 hp28 => ?_)
      obtain ⟨rfl, hz⟩ := hp28
      rw [hz]
      refine V.isub (q := 32) dX3_worth_31 rfl ?_
      exact V.ret_int hB dX3_worth_32 rfl ⟨_, rfl, MW.no hX (by simp [q_worth, stN_some hk (Nat.le_trans hn6 (by decide)), rfq_6 hrf]) (by decide) (by decide +kernel)⟩
    · rw [hz]
      refine V.goto (q := 19) dX3_worth_15 (by decide) ?_
      refine V.ist3 (q := 20) dX3_worth_19 rfl ?_
      refine V.iload_n (q := 21) dX3_worth_20 rfl rfl ?_
      refine V.ifN_eq (t := 33) (q := 24) dX3_worth_21 (by decide) rfl (by omega) (fun c21 => ?_) (fun c21 => absurd c21 (by decide +kernel))
      refine V.aload_n (q := 34) dX3_worth_33 rfl rfl ?_
      refine V.cvv0 (q := 37) dX3_worth_34 rfl kc_X3_152 rfl (by decide) rfl (hB.rm (by decide)) (Nat.le_of_ble_eq_true rfl) (m_begins hS) (fun τ34 hp34 => ?_)
      obtain ⟨hM1, hS1, hF1⟩ := hp34
      have hG1 := Gz.rf.c hF1 (by decide)
      have hY1 : YA τ34 n y 6 6 τ := ⟨hS1, by rw [hF1 43 (by decide)]; exact hY.2⟩
      refine V.aload_n (q := 38) dX3_worth_37 rfl rfl ?_
      refine V.iload_n (q := 39) dX3_worth_38 rfl rfl ?_
      refine V.cvi1 (q := 42) dX3_worth_39 rfl kc_X3_165 rfl (by decide) rfl (hB.rm (by decide)) (Nat.le_of_ble_eq_true rfl) (m_mudBehind hY1 hM1 (k := j) (by omega)) (fun r39 τ39 hp39 => ?_)
      obtain ⟨rfl, hY2, hM2, hF2⟩ := hp39
      have hG2 := hG1.y hF2
      refine V.ist4 (q := 44) dX3_worth_42 rfl ?_
      refine V.aload_n (q := 45) dX3_worth_44 rfl rfl ?_
      refine V.iload_n (q := 46) dX3_worth_45 rfl rfl ?_
      refine V.putI (q := 49) dX3_worth_46 rfl kp_X3_25 rfl (by decide) rfl rfl rfl ?_
      have hY3 := hY2.wz (z2 := k)
      rw [n9_in (by omega)] at hY3
      have hM3 := hM2.ww (o1 := 43) (k := 6) (v := nI k) (by decide)
      have hG3 := hG2.w3 (k := 6) (v := nI k) (Or.inl rfl)
      refine V.aload_n (q := 50) dX3_worth_49 rfl rfl ?_
      refine V.iload_n (q := 51) dX3_worth_50 rfl rfl ?_
      refine V.cvi1 (q := 54) dX3_worth_51 rfl kc_X3_165 rfl (by decide) rfl (hB.rm (by decide)) (Nat.le_of_ble_eq_true rfl) (m_mudBehind hY3 hM3 (k := j) (by omega)) (fun r51 τ51 hp51 => ?_)
      obtain ⟨rfl, hY4, hM4, hF4⟩ := hp51
      have hG4 := hG3.y hF4
      refine V.ist5 (q := 56) dX3_worth_54 rfl ?_
      refine V.aload_n (q := 57) dX3_worth_56 rfl rfl ?_
      refine V.bipush (q := 59) (v := (-9)) dX3_worth_57 rfl (by decide +kernel) ?_
      refine V.putI (q := 62) dX3_worth_59 rfl kp_X3_25 rfl (by decide) rfl rfl rfl ?_
      have hY5 := hY4.wz (z2 := 6)
      rw [show n9 6 = -9 from rfl] at hY5
      have hG5 := hG4.w3 (k := 6) (v := -9) (Or.inl rfl)
      refine V.iload (q := 64) dX3_worth_62 rfl rfl ?_
      refine V.iload (q := 66) dX3_worth_64 rfl rfl ?_
      refine V.isub (q := 67) dX3_worth_66 rfl ?_
      exact V.ret_int hB dX3_worth_67 rfl ⟨_, rfl, MW.yes hX hY5 hG5 (by unfold q_worth; simp only [stN_some hk (Nat.le_trans hn6 (by decide))]; rw [rfq_in hj1 hj2 (by decide), tn_nI (by omega)]; rfl)⟩
  · rw [hz]
    refine V.ifN_eq (t := 18) (q := 8) dX3_worth_5 (by decide) rfl (by omega) (fun c5 => ?_) (fun c5 => absurd c5 (by decide +kernel))
    refine V.iconst (q := 19) (v := (-1)) dX3_worth_18 rfl (by decide +kernel) ?_
    refine V.ist3 (q := 20) dX3_worth_19 rfl ?_
    refine V.iload_n (q := 21) dX3_worth_20 rfl rfl ?_
    refine V.if_eq (t := 33) (q := 24) dX3_worth_21 (by decide) rfl  (fun c21 => absurd c21 (by decide +kernel)) (fun c21 => ?_)
    refine V.ldc (q := 26) dX3_worth_24 rfl kk_X3_164 ?_
    refine V.aload_n (q := 27) dX3_worth_26 rfl rfl ?_
    refine V.iload_n (q := 28) dX3_worth_27 rfl rfl ?_
    refine V.cvi1 (q := 31) dX3_worth_28 rfl kc_X3_71 rfl (by decide) rfl (hB.rm (by decide)) (Nat.le_of_ble_eq_true rfl) (m_refuse hX (k := 1) (v := -1) (by decide) (by decide) (by decide +kernel)) (fun r28 τ28 hp28 => ?_)
    obtain ⟨rfl, hz⟩ := hp28
    rw [hz]
    refine V.isub (q := 32) dX3_worth_31 rfl ?_
    exact V.ret_int hB dX3_worth_32 rfl ⟨_, rfl, MW.no hX (by simp [q_worth, stN_none hsk]) (by decide) (by decide +kernel)⟩

