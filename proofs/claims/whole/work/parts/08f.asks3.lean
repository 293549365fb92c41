theorem fn_9 {n rl : Nat} {ro g : Nat → Nat} (hn : n ≤ 6) (h : rl = n) : fnM rl n ro g = -9 ↔ ftB n ro g = true := by
  subst h
  rw [ftB_iff]
  unfold fnM
  rw [Nat.min_self]
  cases h1 : fsK (fun i => decide (ro i ≠ g i)) rl with
  | none =>
    refine ⟨fun _ i hi => ?_, fun _ => by rw [if_pos rfl]⟩
    have := fsK_no h1 i hi
    simp at this
    exact this
  | some i =>
    have h2 := fsK_lt h1
    refine ⟨fun h3 => ?_, fun h3 => ?_⟩
    · have h4 : nI i < 0 := by rw [show nI i = -9 from h3]; decide
      exact absurd h4 (nI_pos (by omega))
    · have h5 := of_decide_eq_true h2.2
      exact absurd (h3 i h2.1) h5
def q_on (fl y2 : Nat) : Nat × Int32 := if fl = 0 then (3, 0) else (0, nI y2)
theorem sN_or17 (v : Int32) : (∃ k, 11 ≤ k ∧ k ≤ 16 ∧ v = nI k) ∨ v = nI 0 ∨ v = nI 1 ∨ v = nI 2 ∨ v = nI 3 ∨ v = nI 4 ∨ v = nI 5 ∨ ((∃ k, 6 ≤ k ∧ k ≤ 10 ∧ v = nI k) ∨ ¬ sN v 17) := by
  by_cases h : sN v 17
  · obtain ⟨k, hk, rfl⟩ := h
    rcases (show 11 ≤ k ∨ k = 0 ∨ k = 1 ∨ k = 2 ∨ k = 3 ∨ k = 4 ∨ k = 5 ∨ (6 ≤ k ∧ k ≤ 10) by omega) with h1 | rfl | rfl | rfl | rfl | rfl | rfl | h1
    · exact Or.inl ⟨k, h1, by omega, rfl⟩
    · simp
    · simp
    · simp
    · simp
    · simp
    · simp
    · exact Or.inr (Or.inr (Or.inr (Or.inr (Or.inr (Or.inr (Or.inr (Or.inl ⟨k, h1.1, h1.2, rfl⟩)))))))
  · exact Or.inr (Or.inr (Or.inr (Or.inr (Or.inr (Or.inr (Or.inr (Or.inr h)))))))
theorem cnt_out {v : Int32} (h : (∃ k, 6 ≤ k ∧ k ≤ 10 ∧ v = nI k) ∨ ¬ sN v 17) (h1 : ¬ v - nI 10 < nI 1) (h2 : ¬ nI 6 < v - nI 10) : False := by
  obtain ⟨j, hj1, hj6, hj⟩ := rof_in (v := v - nI 10) (a := 1) (c := 6) (Int32.not_lt.mp h1) (Int32.not_lt.mp h2) (by decide) (by decide)
  have hv : v = nI (j + 10) := by
    rw [← nI_add, ← hj]; simp
  rcases h with ⟨k, hk1, hk2, hk⟩ | h
  · have := (nI_eq (by omega) (by omega)).mp (hk.symm.trans hv)
    omega
  · exact h ⟨j + 10, by omega, hv⟩
theorem cnt_sw {v : Int32} (h : (∃ k, 6 ≤ k ∧ k ≤ 10 ∧ v = nI k) ∨ ¬ sN v 17) : v.toInt < 0 ∨ 5 < v.toInt := by
  rcases h with ⟨k, hk1, hk2, rfl⟩ | h
  · rw [nI_toInt (by omega)]; omega
  · have := sN_out (n := 17) (by decide) h
    omega
theorem cnt_q {n y : Nat} {τ : Nat → Nat → Nat} {rl m : Nat} {rc : Nat → Nat} {v : Int32} (h : (∃ k, 6 ≤ k ∧ k ≤ 10 ∧ v = nI k) ∨ ¬ sN v 17) : q_count n y τ rl m rc v = (0, -9) := by
  unfold q_count
  rcases h with ⟨k, hk1, hk2, rfl⟩ | h
  · rw [stN_some (by omega) (by decide)]
    show (if 11 ≤ k then _ else _) = _
    rw [if_neg (by omega), if_neg (by omega), if_neg (by omega), if_neg (by omega), if_neg (by omega), if_neg (by omega), if_neg (by omega)]
  · rw [stN_none h]
-- firstNotAsTold(t)
set_option maxHeartbeats 4000000 in
set_option maxRecDepth 100000 in
theorem p_fnat {σ : Sg} {n y : Nat} {τ : Nat → Nat → Nat} {fl n2 y2 : Nat} {τ2 : Nat → Nat → Nat} {m : Nat} {cs : Nat → Nat} {rl : Nat} {ro rc : Nat → Nat} (hX : XR σ n y τ fl n2 y2 τ2 m cs rl ro rc) {t n9 y9 z9 l9 : Nat} {υ : Nat → Nat → Nat} (ht : isT t) (hT : TA σ t n9 y9 z9 l9 υ) : Con 1 yX2_firstNotAsTold cX2_firstNotAsTold 4 (some .int) [.ref 0, .ref t] σ (PI (fun r σ1 => r = fnM rl n9 ro (υ 1) ∧ σ1 = σ)) := by
  refine Con.of (by decide) (by simp [Value.category]) (Nat.le_of_ble_eq_true rfl) (fun x hB => ?_)
  show V x RX2 cX2_firstNotAsTold 4 0 [some (.ref 0), some (.ref t), none, none] [] _
  have hr6 := hX.rl6
  have hn9 := hT.n6
  refine V.aload_n (q := 1) dX2_firstNotAsTold_0 rfl rfl ?_
  refine V.getI (q := 4) dX2_firstNotAsTold_1 rfl kf_X2_151 rfl (by decide) rfl (XR.rl0 hX) ?_
  refine V.aload_n (q := 5) dX2_firstNotAsTold_4 rfl rfl ?_
  refine V.getIn (q := 8) dX2_firstNotAsTold_5 rfl kf_X2_120 (shT ht) (loT ht) rfl (TA.n8 hT) ?_
  refine V.min (q := 11) dX2_firstNotAsTold_8 rfl kc_X2_202 (hB.rm (by decide)) (Nat.le_of_ble_eq_true rfl) (minN (by omega) (by omega)) ?_
  refine V.ist2 (q := 12) dX2_firstNotAsTold_11 rfl ?_
  refine V.iconst (q := 13) (v := nI 0) dX2_firstNotAsTold_12 rfl (by decide +kernel) ?_
  refine V.ist3 (q := 14) dX2_firstNotAsTold_13 rfl ?_
  have loop : ∀ i, i ≤ min rl n9 → fsK (fun i => decide (ro i ≠ υ 1 i)) i = none → V x RX2 cX2_firstNotAsTold 4 14 [some (.ref 0), some (.ref t), some (.int (nI (min rl n9))), some (.int (nI i))] [] σ := by
    refine down (min rl n9) (fun i hi ih hno => ?_)
    refine V.iload_n (q := 15) dX2_firstNotAsTold_14 rfl rfl ?_
    refine V.iload_n (q := 16) dX2_firstNotAsTold_15 rfl rfl ?_
    refine V.icmpN_ge (t := 42) (q := 19) dX2_firstNotAsTold_16 (by decide) rfl (by omega) (by omega) (fun c16 => ?_) (fun c16 => ?_)
    · have ei : i = min rl n9 := by omega
      subst ei
      refine V.aload_n (q := 43) dX2_firstNotAsTold_42 rfl rfl ?_
      refine V.getI (q := 46) dX2_firstNotAsTold_43 rfl kf_X2_151 rfl (by decide) rfl (XR.rl0 hX) ?_
      refine V.aload_n (q := 47) dX2_firstNotAsTold_46 rfl rfl ?_
      refine V.getIn (q := 50) dX2_firstNotAsTold_47 rfl kf_X2_120 (shT ht) (loT ht) rfl (TA.n8 hT) ?_
      refine V.icmpN_ne (t := 58) (q := 53) dX2_firstNotAsTold_50 (by decide) rfl (by omega) (by omega) (fun c50 => ?_) (fun c50 => ?_)
      · refine V.iload_n (q := 59) dX2_firstNotAsTold_58 rfl rfl ?_
        exact V.ret_int hB dX2_firstNotAsTold_59 rfl ⟨_, rfl, ⟨by unfold fnM; rw [hno]; simp only []; rw [if_neg c50], rfl⟩⟩
      · refine V.bipush (q := 55) (v := (-9)) dX2_firstNotAsTold_53 rfl (by decide +kernel) ?_
        refine V.goto (q := 59) dX2_firstNotAsTold_55 (by decide) ?_
        exact V.ret_int hB dX2_firstNotAsTold_59 rfl ⟨_, rfl, ⟨by unfold fnM; rw [hno]; simp only []; rw [if_pos c50], rfl⟩⟩
    · have hro := hX.rw0 (show i < rl by omega)
      have hmu := (hT.w i (by omega)).2.1
      refine V.aload_n (q := 20) dX2_firstNotAsTold_19 rfl rfl ?_
      refine V.getR (q := 23) dX2_firstNotAsTold_20 rfl kf_X2_39 rfl (by decide) rfl ?_
      refine V.iload_n (q := 24) dX2_firstNotAsTold_23 rfl rfl ?_
      refine V.ialdN (q := 25) dX2_firstNotAsTold_24 rfl rfl (by decide) (by omega) (by decide) hro.1 ?_
      refine V.aload_n (q := 26) dX2_firstNotAsTold_25 rfl rfl ?_
      refine V.getRn (q := 29) dX2_firstNotAsTold_26 rfl kf_X2_76 (shT ht) (loT ht) rfl ?_
      refine V.iload_n (q := 30) dX2_firstNotAsTold_29 rfl rfl ?_
      refine V.ialdN (q := 31) dX2_firstNotAsTold_30 rfl (shTa ht 2 (by decide) (by decide)) (loTa ht 2 (by decide)) (by omega) (by decide) (TA.a hT 1 (by decide) (by omega)) ?_
      refine V.icmpN_eq (t := 36) (q := 34) dX2_firstNotAsTold_31 (by decide) rfl (by omega) (by omega) (fun c31 => ?_) (fun c31 => ?_)
      · have hp9 := fsK_n hno (show ¬ decide (ro i ≠ υ 1 i) = true by simp [c31])
        refine V.inc3 (q := 39) dX2_firstNotAsTold_36 rfl (inc1 _) ?_
        refine V.goto (q := 14) dX2_firstNotAsTold_39 (by decide) ?_
        exact ih c16 hp9
      · have hp9 := fsK_y hno (decide_eq_true c31)
        refine V.iload_n (q := 35) dX2_firstNotAsTold_34 rfl rfl ?_
        exact V.ret_int hB dX2_firstNotAsTold_35 rfl ⟨_, rfl, ⟨by unfold fnM; rw [fsK_up hp9 (show i + 1 ≤ min rl n9 by omega)], rfl⟩⟩
  exact loop 0 (Nat.zero_le _) rfl

-- judge
set_option maxHeartbeats 4000000 in
set_option maxRecDepth 100000 in
theorem p_judge {σ : Sg} {n y : Nat} {τ : Nat → Nat → Nat} {fl n2 y2 : Nat} {τ2 : Nat → Nat → Nat} {m : Nat} {cs : Nat → Nat} {rl : Nat} {ro rc : Nat → Nat} (hX : XR σ n y τ fl n2 y2 τ2 m cs rl ro rc) : Con 2 yX2_judge cX2_judge 2 (some .int) [.ref 0] σ (PI (fun r σ1 => r = rA ((0, fnM rl n ro (τ 1))) ∧ XR σ1 n y τ fl n2 y2 τ2 m cs 0 ro (rU rc ((0, fnM rl n ro (τ 1)))) ∧ Fx σ σ1)) := by
  refine Con.of (by decide) (by simp [Value.category]) (Nat.le_of_ble_eq_true rfl) (fun x hB => ?_)
  show V x RX2 cX2_judge 2 0 [some (.ref 0), none] [] _
  have hN := hX.now
  have hn6 := hN.n6
  have hy9 := hX.y9
  refine V.aload_n (q := 1) dX2_judge_0 rfl rfl ?_
  refine V.aload_n (q := 2) dX2_judge_1 rfl rfl ?_
  refine V.getR (q := 5) dX2_judge_2 rfl kf_X2_12 rfl (by decide) rfl ?_
  refine V.cvi1 (q := 8) dX2_judge_5 rfl kc_X2_154 rfl (by decide) rfl (hB.rm (by decide)) (Nat.le_of_ble_eq_true rfl) (p_fnat hX t1 hN) (fun r5 τ5 hp5 => ?_)
  obtain ⟨rfl, hz⟩ := hp5
  rw [hz]
  refine V.ist1 (q := 9) dX2_judge_8 rfl ?_
  refine V.aload_n (q := 10) dX2_judge_9 rfl rfl ?_
  refine V.iconst (q := 11) (v := nI 0) dX2_judge_10 rfl (by decide +kernel) ?_
  refine V.putI (q := 14) dX2_judge_11 rfl kp_X2_151 rfl (by decide) rfl rfl rfl ?_
  refine V.iload_n (q := 15) dX2_judge_14 rfl rfl ?_
  exact V.ret_int hB dX2_judge_15 rfl ⟨_, rfl, ⟨rfl, hX.rl00, fun o ho => w2_ne (by omega)⟩⟩

-- fitting
set_option maxHeartbeats 4000000 in
set_option maxRecDepth 100000 in
theorem p_fitting {σ : Sg} {n y : Nat} {τ : Nat → Nat → Nat} {fl n2 y2 : Nat} {τ2 : Nat → Nat → Nat} {m : Nat} {cs : Nat → Nat} {rl : Nat} {ro rc : Nat → Nat} (hX : XR σ n y τ fl n2 y2 τ2 m cs rl ro rc) (v : Int32) (w : Int32) : Con 5 yX2_fitting cX2_fitting 6 (some .int) [.ref 0, .int v, .int w] σ (PI (XP σ n y τ fl n2 y2 τ2 m cs rl ro rc (q_fitting n y τ rl ro v w))) := by
  refine Con.of (by decide) (by simp [Value.category]) (Nat.le_of_ble_eq_true rfl) (fun x hB => ?_)
  show V x RX2 cX2_fitting 6 0 [some (.ref 0), some (.int v), some (.int w), none, none, none] [] _
  have hN := hX.now
  have hn6 := hN.n6
  have hy9 := hX.y9
  refine V.aload_n (q := 1) dX2_fitting_0 rfl rfl ?_
  refine V.getR (q := 4) dX2_fitting_1 rfl kf_X2_12 rfl (by decide) rfl ?_
  refine V.iload_n (q := 5) dX2_fitting_4 rfl rfl ?_
  refine V.cvi1 (q := 8) dX2_fitting_5 rfl kc_X2_69 rfl (by decide) rfl (hB.rm (by decide)) (Nat.le_of_ble_eq_true rfl) (c_isStreet t1 hN v) (fun r5 τ5 hp5 => ?_)
  obtain ⟨hz, ⟨rfl, k, hk, rfl⟩ | ⟨rfl, hsk⟩⟩ := hp5
  · rw [hz]
    refine V.iload_n (q := 9) dX2_fitting_8 rfl rfl ?_
    refine V.iconst (q := 10) (v := nI 1) dX2_fitting_9 rfl (by decide +kernel) ?_
    refine V.bipush (q := 12) (v := nI 30) dX2_fitting_10 rfl (by decide +kernel) ?_
    refine V.csi4 (q := 15) dX2_fitting_12 rfl kc_X2_45 (hB.rm (by decide)) (Nat.le_of_ble_eq_true rfl) (p_rof w 1 30 (by decide) (by decide)) (fun r12 τ12 hp12 => ?_)
    obtain ⟨hz, ⟨hrf, rfl⟩ | ⟨hrf, rfl⟩ | ⟨rfl, j, hj1, hj2, rfl⟩⟩ := hp12
    · rw [hz]
      refine V.ist3 (q := 16) dX2_fitting_15 rfl ?_
      refine V.iload_n (q := 17) dX2_fitting_16 rfl rfl ?_
      refine V.if_ne (t := 37) (q := 20) dX2_fitting_17 (by decide) rfl  (fun c17 => ?_) (fun c17 => absurd c17 (by decide +kernel))
      refine V.iload_n (q := 38) dX2_fitting_37 rfl rfl ?_
      refine V.if_eq (t := 47) (q := 41) dX2_fitting_38 (by decide) rfl  (fun c38 => absurd c38 (by decide +kernel)) (fun c38 => ?_)
      refine V.aload_n (q := 42) dX2_fitting_41 rfl rfl ?_
      refine V.iload_n (q := 43) dX2_fitting_42 rfl rfl ?_
      refine V.cvi1 (q := 46) dX2_fitting_43 rfl kc_X2_53 rfl (by decide) rfl (hB.rm (by decide)) (Nat.le_of_ble_eq_true rfl) (p_refuse hX (k := 4) (v := -4) (by decide) (by decide) (by decide +kernel)) (fun r43 τ43 hp43 => ?_)
      obtain ⟨rfl, hz⟩ := hp43
      rw [hz]
      exact V.ret_int hB dX2_fitting_46 rfl ⟨_, rfl, XP.no hX (by simp [q_fitting, stN_some hk (Nat.le_trans hn6 (by decide)), hrf]) (by decide) (by decide +kernel)⟩
    · rw [hz]
      refine V.ist3 (q := 16) dX2_fitting_15 rfl ?_
      refine V.iload_n (q := 17) dX2_fitting_16 rfl rfl ?_
      refine V.if_ne (t := 37) (q := 20) dX2_fitting_17 (by decide) rfl  (fun c17 => ?_) (fun c17 => absurd c17 (by decide +kernel))
      refine V.iload_n (q := 38) dX2_fitting_37 rfl rfl ?_
      refine V.if_eq (t := 47) (q := 41) dX2_fitting_38 (by decide) rfl  (fun c38 => absurd c38 (by decide +kernel)) (fun c38 => ?_)
      refine V.aload_n (q := 42) dX2_fitting_41 rfl rfl ?_
      refine V.iload_n (q := 43) dX2_fitting_42 rfl rfl ?_
      refine V.cvi1 (q := 46) dX2_fitting_43 rfl kc_X2_53 rfl (by decide) rfl (hB.rm (by decide)) (Nat.le_of_ble_eq_true rfl) (p_refuse hX (k := 6) (v := -6) (by decide) (by decide) (by decide +kernel)) (fun r43 τ43 hp43 => ?_)
      obtain ⟨rfl, hz⟩ := hp43
      rw [hz]
      exact V.ret_int hB dX2_fitting_46 rfl ⟨_, rfl, XP.no hX (by simp [q_fitting, stN_some hk (Nat.le_trans hn6 (by decide)), hrf]) (by decide) (by decide +kernel)⟩
    · rw [hz]
      refine V.ist3 (q := 16) dX2_fitting_15 rfl ?_
      refine V.iload_n (q := 17) dX2_fitting_16 rfl rfl ?_
      refine V.ifN_ne (t := 37) (q := 20) dX2_fitting_17 (by decide) rfl (by omega) (fun c17 => absurd c17 (by decide +kernel)) (fun c17 => ?_)
      refine V.aload_n (q := 21) dX2_fitting_20 rfl rfl ?_
      refine V.getI (q := 24) dX2_fitting_21 rfl kf_X2_151 rfl (by decide) rfl (XR.rl0 hX) ?_
      refine V.aload_n (q := 25) dX2_fitting_24 rfl rfl ?_
      refine V.getR (q := 28) dX2_fitting_25 rfl kf_X2_12 rfl (by decide) rfl ?_
      refine V.getIn (q := 31) dX2_fitting_28 rfl kf_X2_120 rfl (by decide) rfl (TA.n8 hN) ?_
      refine V.icmpN_eq (t := 37) (q := 34) dX2_fitting_31 (by decide) rfl (by have := hX.rl6; omega) (by omega) (fun c31 => ?_) (fun c31 => ?_)
      · refine V.iload_n (q := 38) dX2_fitting_37 rfl rfl ?_
        refine V.ifN_eq (t := 47) (q := 41) dX2_fitting_38 (by decide) rfl (by omega) (fun c38 => ?_) (fun c38 => absurd c38 (by decide +kernel))
        refine V.iconst (q := 48) (v := nI 0) dX2_fitting_47 rfl (by decide +kernel) ?_
        refine V.ist4 (q := 50) dX2_fitting_48 rfl ?_
        refine V.iconst (q := 51) (v := nI 0) dX2_fitting_50 rfl (by decide +kernel) ?_
        refine V.ist5 (q := 53) dX2_fitting_51 rfl ?_
        have loop : ∀ a, a ≤ 6 → ∀ σ1, TA σ1 1 n y 6 6 τ → Fs σ σ1 → ∀ b, b = bsK (fun a => ftB n ro (yM n y (setF τ 0 (upN (τ 0) k a)) j 1)) a → V x RX2 cX2_fitting 6 53 [some (.ref 0), some (.int (nI k)), some (.int (nI j)), some (.int (nI 0)), some (.int (nI b)), some (.int (nI a))] [] σ1 := by
          refine down 6 (fun a ha ih σ1 hN4 hF4 b eb => ?_)
          have hb := bsK_lt (fun a => ftB n ro (yM n y (setF τ 0 (upN (τ 0) k a)) j 1)) a
          rw [← eb] at hb
          refine V.iload (q := 55) dX2_fitting_53 rfl rfl ?_
          refine V.bipush (q := 57) (v := nI 6) dX2_fitting_55 rfl (by decide +kernel) ?_
          refine V.icmpN_ge (t := 119) (q := 60) dX2_fitting_57 (by decide) rfl (by omega) (by omega) (fun c57 => ?_) (fun c57 => ?_)
          · have ea : a = 6 := by omega
            subst ea
            refine V.iload (q := 121) dX2_fitting_119 rfl rfl ?_
            exact V.ret_int hB dX2_fitting_121 rfl ⟨_, rfl, XP.yes hX (hF4) (by unfold q_fitting; simp only [stN_some hk (Nat.le_trans hn6 (by decide))]; rw [rfN_in hj1 hj2 (by decide), if_pos rfl, if_pos c31, tn_nI (by omega), eb])⟩
          · refine V.aload_n (q := 61) dX2_fitting_60 rfl rfl ?_
            refine V.getR (q := 64) dX2_fitting_61 rfl kf_X2_19 rfl (by decide) rfl ?_
            refine V.aload_n (q := 65) dX2_fitting_64 rfl rfl ?_
            refine V.getR (q := 68) dX2_fitting_65 rfl kf_X2_12 rfl (by decide) rfl ?_
            refine V.cvv1 (q := 71) dX2_fitting_68 rfl kc_X2_106 rfl (by decide) rfl (hB.rm (by decide)) (Nat.le_of_ble_eq_true rfl) (c_copyFrom t19 t1 (by decide) hN4) (fun τ68 hp68 => ?_)
            obtain ⟨hT5, hF5⟩ := hp68
            have hN5 := hN4.ot hF5 (by decide)
            refine V.aload_n (q := 72) dX2_fitting_71 rfl rfl ?_
            refine V.getR (q := 75) dX2_fitting_72 rfl kf_X2_19 rfl (by decide) rfl ?_
            refine V.getRn (q := 78) dX2_fitting_75 rfl kf_X2_73 rfl (by decide) rfl ?_
            refine V.iload_n (q := 79) dX2_fitting_78 rfl rfl ?_
            refine V.iload (q := 81) dX2_fitting_79 rfl rfl ?_
            refine V.iastN (q := 82) dX2_fitting_81 rfl rfl (by decide) (by omega) (by decide) ?_
            have hT6 := hT5.wr (f := 0) (v := a) (by decide) hk (by unfold okF; omega)
            have hN6 := hN5.wo (o := 20) (k := k) (x := nI a) (fun h9 => by omega)
            have hF6 := ((hF4.tr (Fs.of hF5 (Or.inl rfl))).w (o := 20) (k := k) (v := nI a) (by decide) (by decide) (by decide) (by decide))
            refine V.aload_n (q := 83) dX2_fitting_82 rfl rfl ?_
            refine V.getR (q := 86) dX2_fitting_83 rfl kf_X2_19 rfl (by decide) rfl ?_
            refine V.iload_n (q := 87) dX2_fitting_86 rfl rfl ?_
            refine V.cvi1 (q := 90) dX2_fitting_87 rfl kc_X2_110 rfl (by decide) rfl (hB.rm (by decide)) (Nat.le_of_ble_eq_true rfl) (c_mudBehind t19 hT6 (k := j) (by omega)) (fun r87 τ87 hp87 => ?_)
            obtain ⟨rfl, hT7, hF7⟩ := hp87
            have hN7 := hN6.ot hF7 (by decide)
            have hF8 := hF6.tr (Fs.of hF7 (Or.inl rfl))
            refine V.pop (q := 91) dX2_fitting_90 rfl rfl ?_
            refine V.aload_n (q := 92) dX2_fitting_91 rfl rfl ?_
            refine V.aload_n (q := 93) dX2_fitting_92 rfl rfl ?_
            refine V.getR (q := 96) dX2_fitting_93 rfl kf_X2_19 rfl (by decide) rfl ?_
            refine V.cvi1 (q := 99) dX2_fitting_96 rfl kc_X2_154 rfl (by decide) rfl (hB.rm (by decide)) (Nat.le_of_ble_eq_true rfl) (p_fnat (hX.fs hF8) t19 hT7) (fun r96 τ96 hp96 => ?_)
            obtain ⟨rfl, hz⟩ := hp96
            rw [hz]
            refine V.bipush (q := 101) (v := (-9)) dX2_fitting_99 rfl (by decide +kernel) ?_
            refine V.icmp_ne (t := 113) (q := 104) dX2_fitting_101 (by decide) rfl  (fun c101 => ?_) (fun c101 => ?_)
            · have hft : ¬ ftB n ro (yM n y (setF τ 0 (upN (τ 0) k a)) j 1) = true := fun h9 => c101 ((fn_9 hn6 c31).mpr h9)
              refine V.inc5 (q := 116) dX2_fitting_113 rfl (inc1 _) ?_
              refine V.goto (q := 53) dX2_fitting_116 (by decide) ?_
              exact ih c57 _ hN7 hF8 _ (by unfold bsK; rw [if_neg hft]; exact eb)
            · have hft : ftB n ro (yM n y (setF τ 0 (upN (τ 0) k a)) j 1) = true := (fn_9 hn6 c31).mp c101
              refine V.iload (q := 106) dX2_fitting_104 rfl rfl ?_
              refine V.iconst (q := 107) (v := nI 1) dX2_fitting_106 rfl (by decide +kernel) ?_
              refine V.iload (q := 109) dX2_fitting_107 rfl rfl ?_
              refine V.ishl (q := 110) dX2_fitting_109 rfl ?_
              rw [shl1 (show a < 6 by omega)]
              refine V.ior (q := 111) dX2_fitting_110 rfl ?_
              rw [ior_all a (by omega) b hb]
              refine V.ist4 (q := 113) dX2_fitting_111 rfl ?_
              refine V.inc5 (q := 116) dX2_fitting_113 rfl (inc1 _) ?_
              refine V.goto (q := 53) dX2_fitting_116 (by decide) ?_
              exact ih c57 _ hN7 hF8 _ (by unfold bsK; rw [if_pos hft, eb])
        exact loop 0 (by decide) σ hN Fs.rf 0 rfl
      · refine V.bipush (q := 36) (v := (-3)) dX2_fitting_34 rfl (by decide +kernel) ?_
        refine V.ist3 (q := 37) dX2_fitting_36 rfl ?_
        refine V.iload_n (q := 38) dX2_fitting_37 rfl rfl ?_
        refine V.if_eq (t := 47) (q := 41) dX2_fitting_38 (by decide) rfl  (fun c38 => absurd c38 (by decide +kernel)) (fun c38 => ?_)
        refine V.aload_n (q := 42) dX2_fitting_41 rfl rfl ?_
        refine V.iload_n (q := 43) dX2_fitting_42 rfl rfl ?_
        refine V.cvi1 (q := 46) dX2_fitting_43 rfl kc_X2_53 rfl (by decide) rfl (hB.rm (by decide)) (Nat.le_of_ble_eq_true rfl) (p_refuse hX (k := 3) (v := -3) (by decide) (by decide) (by decide +kernel)) (fun r43 τ43 hp43 => ?_)
        obtain ⟨rfl, hz⟩ := hp43
        rw [hz]
        exact V.ret_int hB dX2_fitting_46 rfl ⟨_, rfl, XP.no hX (by simp [q_fitting, stN_some hk (Nat.le_trans hn6 (by decide)), rfN_in hj1 hj2 (show 30 < 2 ^ 20 by decide), c31]) (by decide) (by decide +kernel)⟩
  · rw [hz]
    refine V.iload_n (q := 9) dX2_fitting_8 rfl rfl ?_
    refine V.iconst (q := 10) (v := nI 1) dX2_fitting_9 rfl (by decide +kernel) ?_
    refine V.bipush (q := 12) (v := nI 30) dX2_fitting_10 rfl (by decide +kernel) ?_
    refine V.csi4 (q := 15) dX2_fitting_12 rfl kc_X2_45 (hB.rm (by decide)) (Nat.le_of_ble_eq_true rfl) (p_rof0) (fun r12 τ12 hp12 => ?_)
    obtain ⟨rfl, hz⟩ := hp12
    rw [hz]
    refine V.ist3 (q := 16) dX2_fitting_15 rfl ?_
    refine V.iload_n (q := 17) dX2_fitting_16 rfl rfl ?_
    refine V.if_ne (t := 37) (q := 20) dX2_fitting_17 (by decide) rfl  (fun c17 => ?_) (fun c17 => absurd c17 (by decide +kernel))
    refine V.iload_n (q := 38) dX2_fitting_37 rfl rfl ?_
    refine V.if_eq (t := 47) (q := 41) dX2_fitting_38 (by decide) rfl  (fun c38 => absurd c38 (by decide +kernel)) (fun c38 => ?_)
    refine V.aload_n (q := 42) dX2_fitting_41 rfl rfl ?_
    refine V.iload_n (q := 43) dX2_fitting_42 rfl rfl ?_
    refine V.cvi1 (q := 46) dX2_fitting_43 rfl kc_X2_53 rfl (by decide) rfl (hB.rm (by decide)) (Nat.le_of_ble_eq_true rfl) (p_refuse hX (k := 1) (v := -1) (by decide) (by decide) (by decide +kernel)) (fun r43 τ43 hp43 => ?_)
    obtain ⟨rfl, hz⟩ := hp43
    rw [hz]
    exact V.ret_int hB dX2_fitting_46 rfl ⟨_, rfl, XP.no hX (by simp [q_fitting, stN_none hsk]) (by decide) (by decide +kernel)⟩

-- seeds
set_option maxHeartbeats 4000000 in
set_option maxRecDepth 100000 in
theorem p_seeds {σ : Sg} {n y : Nat} {τ : Nat → Nat → Nat} {fl n2 y2 : Nat} {τ2 : Nat → Nat → Nat} {m : Nat} {cs : Nat → Nat} {rl : Nat} {ro rc : Nat → Nat} (hX : XR σ n y τ fl n2 y2 τ2 m cs rl ro rc) (v : Int32) (w : Int32) : Con 5 yX2_seeds cX2_seeds 7 (some .int) [.ref 0, .int v, .int w] σ (PI (XP σ n y τ fl n2 y2 τ2 m cs rl ro rc (q_seeds n y τ v w))) := by
  refine Con.of (by decide) (by simp [Value.category]) (Nat.le_of_ble_eq_true rfl) (fun x hB => ?_)
  show V x RX2 cX2_seeds 7 0 [some (.ref 0), some (.int v), some (.int w), none, none, none, none] [] _
  have hN := hX.now
  have hn6 := hN.n6
  have hy9 := hX.y9
  refine V.iconst (q := 1) (v := nI 1) dX2_seeds_0 rfl (by decide +kernel) ?_
  refine V.iload_n (q := 2) dX2_seeds_1 rfl rfl ?_
  refine V.iconst (q := 3) (v := nI 1) dX2_seeds_2 rfl (by decide +kernel) ?_
  refine V.bipush (q := 5) (v := nI 30) dX2_seeds_3 rfl (by decide +kernel) ?_
  refine V.csi4 (q := 8) dX2_seeds_5 rfl kc_X2_45 (hB.rm (by decide)) (Nat.le_of_ble_eq_true rfl) (p_rof v 1 30 (by decide) (by decide)) (fun r5 τ5 hp5 => ?_)
  obtain ⟨hz, ⟨hrf, rfl⟩ | ⟨hrf, rfl⟩ | ⟨rfl, j, hj1, hj2, rfl⟩⟩ := hp5
  · rw [hz]
    refine V.ist3 (q := 9) dX2_seeds_8 rfl ?_
    refine V.iload_n (q := 10) dX2_seeds_9 rfl rfl ?_
    refine V.if_eq (t := 19) (q := 13) dX2_seeds_10 (by decide) rfl  (fun c10 => absurd c10 (by decide +kernel)) (fun c10 => ?_)
    refine V.aload_n (q := 14) dX2_seeds_13 rfl rfl ?_
    refine V.iload_n (q := 15) dX2_seeds_14 rfl rfl ?_
    refine V.cvi1 (q := 18) dX2_seeds_15 rfl kc_X2_53 rfl (by decide) rfl (hB.rm (by decide)) (Nat.le_of_ble_eq_true rfl) (p_refuse hX (k := 4) (v := -4) (by decide) (by decide) (by decide +kernel)) (fun r15 τ15 hp15 => ?_)
    obtain ⟨rfl, hz⟩ := hp15
    rw [hz]
    exact V.ret_int hB dX2_seeds_18 rfl ⟨_, rfl, XP.no hX (by simp [q_seeds, rfq_4 hrf]) (by decide) (by decide +kernel)⟩
  · rw [hz]
    refine V.ist3 (q := 9) dX2_seeds_8 rfl ?_
    refine V.iload_n (q := 10) dX2_seeds_9 rfl rfl ?_
    refine V.if_eq (t := 19) (q := 13) dX2_seeds_10 (by decide) rfl  (fun c10 => absurd c10 (by decide +kernel)) (fun c10 => ?_)
    refine V.aload_n (q := 14) dX2_seeds_13 rfl rfl ?_
    refine V.iload_n (q := 15) dX2_seeds_14 rfl rfl ?_
    refine V.cvi1 (q := 18) dX2_seeds_15 rfl kc_X2_53 rfl (by decide) rfl (hB.rm (by decide)) (Nat.le_of_ble_eq_true rfl) (p_refuse hX (k := 6) (v := -6) (by decide) (by decide) (by decide +kernel)) (fun r15 τ15 hp15 => ?_)
    obtain ⟨rfl, hz⟩ := hp15
    rw [hz]
    exact V.ret_int hB dX2_seeds_18 rfl ⟨_, rfl, XP.no hX (by simp [q_seeds, rfq_6 hrf]) (by decide) (by decide +kernel)⟩
  · rw [hz]
    refine V.ist3 (q := 9) dX2_seeds_8 rfl ?_
    refine V.iload_n (q := 10) dX2_seeds_9 rfl rfl ?_
    refine V.ifN_eq (t := 19) (q := 13) dX2_seeds_10 (by decide) rfl (by omega) (fun c10 => ?_) (fun c10 => absurd c10 (by decide +kernel))
    refine V.aload_n (q := 20) dX2_seeds_19 rfl rfl ?_
    refine V.getR (q := 23) dX2_seeds_20 rfl kf_X2_19 rfl (by decide) rfl ?_
    refine V.aload_n (q := 24) dX2_seeds_23 rfl rfl ?_
    refine V.getR (q := 27) dX2_seeds_24 rfl kf_X2_12 rfl (by decide) rfl ?_
    refine V.cvv1 (q := 30) dX2_seeds_27 rfl kc_X2_106 rfl (by decide) rfl (hB.rm (by decide)) (Nat.le_of_ble_eq_true rfl) (c_copyFrom t19 t1 (by decide) hN) (fun τ27 hp27 => ?_)
    obtain ⟨hT1, hF1⟩ := hp27
    refine V.iload_n (q := 31) dX2_seeds_30 rfl rfl ?_
    refine V.ist4 (q := 33) dX2_seeds_31 rfl ?_
    refine V.iconst (q := 34) (v := nI 0) dX2_seeds_33 rfl (by decide +kernel) ?_
    refine V.ist5 (q := 36) dX2_seeds_34 rfl ?_
    have loop : ∀ p, p ≤ j → ∀ σ1, TA σ1 19 n (y + p) 6 6 (sdM n y τ w p).2 → Fs σ σ1 → ∀ o6, V x RX2 cX2_seeds 7 36 [some (.ref 0), some (.int (nI j)), some (.int w), some (.int (nI 0)), some (.int (sdM n y τ w p).1), some (.int (nI p)), o6] [] σ1 := by
      refine down j (fun p hp ih σ1 hT2 hF2 o6 => ?_)
      refine V.iload (q := 38) dX2_seeds_36 rfl rfl ?_
      refine V.iload_n (q := 39) dX2_seeds_38 rfl rfl ?_
      refine V.icmpN_ge (t := 107) (q := 42) dX2_seeds_39 (by decide) rfl (by omega) (by omega) (fun c39 => ?_) (fun c39 => ?_)
      · have ep : p = j := by omega
        subst ep
        refine V.aload_n (q := 108) dX2_seeds_107 rfl rfl ?_
        refine V.getR (q := 111) dX2_seeds_108 rfl kf_X2_19 rfl (by decide) rfl ?_
        refine V.cvi0 (q := 114) dX2_seeds_111 rfl kc_X2_103 rfl (by decide) rfl (hB.rm (by decide)) (Nat.le_of_ble_eq_true rfl) (c_mudOfAll t19 hT2) (fun r111 τ111 hp111 => ?_)
        obtain ⟨rfl, hz⟩ := hp111
        rw [hz]
        exact V.ret_int hB dX2_seeds_114 rfl ⟨_, rfl, XP.yes hX (hF2) (by unfold q_seeds; rw [rfq_in hj1 hj2 (by decide), tn_nI (by omega)])⟩
      · refine V.iconst (q := 43) (v := nI 0) dX2_seeds_42 rfl (by decide +kernel) ?_
        refine V.ist6 (q := 45) dX2_seeds_43 rfl ?_
        have loop2 : ∀ i, i ≤ n → ∀ σ2 τ3, TA σ2 19 n (y + p) 6 6 τ3 → Fs σ σ2 → (∀ q, q < n → τ3 2 q = if q < i then wv (zK (sdM n y τ w p).1 (q + 1)) else (sdM n y τ w p).2 2 q) → (∀ f, f ≠ 2 → τ3 f = (sdM n y τ w p).2 f) → V x RX2 cX2_seeds 7 45 [some (.ref 0), some (.int (nI j)), some (.int w), some (.int (nI 0)), some (.int (zK (sdM n y τ w p).1 i)), some (.int (nI p)), some (.int (nI i))] [] σ2 := by
          refine down n (fun i hi ih2 σ2 τ3 hT3 hF3 e2 ef => ?_)
          refine V.iload (q := 47) dX2_seeds_45 rfl rfl ?_
          refine V.aload_n (q := 48) dX2_seeds_47 rfl rfl ?_
          refine V.getR (q := 51) dX2_seeds_48 rfl kf_X2_19 rfl (by decide) rfl ?_
          refine V.getIn (q := 54) dX2_seeds_51 rfl kf_X2_120 rfl (by decide) rfl (TA.n8 hT3) ?_
          refine V.icmpN_ge (t := 94) (q := 57) dX2_seeds_54 (by decide) rfl (by omega) (by omega) (fun c54 => ?_) (fun c54 => ?_)
          · have ei : i = n := by omega
            subst ei
            have hT5 : TA σ2 19 i (y + p) 6 6 (setF (sdM i y τ w p).2 2 (fun s => wv (zK (sdM i y τ w p).1 (s + 1)))) := hT3.cg (fun f hf q hq => by
              by_cases h2 : f = 2
              · subst h2; rw [e2 q hq, if_pos hq, setF_at]
              · rw [ef f h2, setF_ne h2])
            refine V.aload_n (q := 95) dX2_seeds_94 rfl rfl ?_
            refine V.getR (q := 98) dX2_seeds_95 rfl kf_X2_19 rfl (by decide) rfl ?_
            refine V.cvv0 (q := 101) dX2_seeds_98 rfl kc_X2_100 rfl (by decide) rfl (hB.rm (by decide)) (Nat.le_of_ble_eq_true rfl) (c_passYear t19 hT5 (by omega)) (fun τ98 hp98 => ?_)
            obtain ⟨hT6, hF6⟩ := hp98
            refine V.inc5 (q := 104) dX2_seeds_101 rfl (inc1 _) ?_
            refine V.goto (q := 36) dX2_seeds_104 (by decide) ?_
            exact ih c39 _ hT6 (hF3.tr (Fs.of hF6 (Or.inl rfl))) _
          · refine V.iload (q := 59) dX2_seeds_57 rfl rfl ?_
            refine V.ldc (q := 61) dX2_seeds_59 rfl kk_X2_158 ?_
            refine V.imul (q := 62) dX2_seeds_61 rfl ?_
            refine V.ldc (q := 64) dX2_seeds_62 rfl kk_X2_159 ?_
            refine V.iadd (q := 65) dX2_seeds_64 rfl ?_
            refine V.ist4 (q := 67) dX2_seeds_65 rfl ?_
            refine V.aload_n (q := 68) dX2_seeds_67 rfl rfl ?_
            refine V.getR (q := 71) dX2_seeds_68 rfl kf_X2_19 rfl (by decide) rfl ?_
            refine V.getRn (q := 74) dX2_seeds_71 rfl kf_X2_79 rfl (by decide) rfl ?_
            refine V.iload (q := 76) dX2_seeds_74 rfl rfl ?_
            refine V.iload (q := 78) dX2_seeds_76 rfl rfl ?_
            refine V.ldc (q := 80) dX2_seeds_78 rfl kk_X2_160 ?_
            refine V.iand (q := 81) dX2_seeds_80 rfl ?_
            refine V.sipush (q := 84) (v := nI 256) dX2_seeds_81 rfl (by decide +kernel) ?_
            refine V.idiv (q := 85) dX2_seeds_84 rfl (by decide +kernel) ?_
            refine V.iconst (q := 86) (v := nI 4) dX2_seeds_85 rfl (by decide +kernel) ?_
            refine V.irem (q := 87) dX2_seeds_86 rfl (by decide +kernel) ?_
            rw [wvI]
            refine V.iastN (q := 88) dX2_seeds_87 rfl rfl (by decide) (by omega) (by decide) ?_
            have hwl := wv_le (zK (sdM n y τ w p).1 i * 1664525 + 1013904223)
            have hT4 := hT3.wr (f := 2) (v := wv (zK (sdM n y τ w p).1 i * 1664525 + 1013904223)) (by decide) c54 (by unfold okF; omega)
            have hF4 := hF3.w (o := 22) (k := i) (v := nI (wv (zK (sdM n y τ w p).1 i * 1664525 + 1013904223))) (by decide) (by decide) (by decide) (by decide)
            refine V.inc6 (q := 91) dX2_seeds_88 rfl (inc1 _) ?_
            refine V.goto (q := 45) dX2_seeds_91 (by decide) ?_
            refine ih2 c54 _ _ hT4 hF4 (fun q hq => ?_) (fun f hf => by rw [setF_ne hf]; exact ef f hf)
            rw [setF_at]; unfold upN
            by_cases h9 : q = i
            · subst h9
              rw [if_pos rfl, if_pos (by omega)]; rfl
            · rw [if_neg h9, e2 q hq]
              by_cases h8 : q < i
              · rw [if_pos h8, if_pos (by omega)]
              · rw [if_neg h8, if_neg (by omega)]
        exact loop2 0 (Nat.zero_le _) σ1 _ hT2 hF2 (fun q hq => by rw [if_neg (by omega)]) (fun _ _ => rfl)
    exact loop 0 (Nat.zero_le _) _ hT1 (Fs.of hF1 (Or.inl rfl)) _

-- image
set_option maxHeartbeats 4000000 in
set_option maxRecDepth 100000 in
theorem p_image {σ : Sg} {n y : Nat} {τ : Nat → Nat → Nat} {fl n2 y2 : Nat} {τ2 : Nat → Nat → Nat} {m : Nat} {cs : Nat → Nat} {rl : Nat} {ro rc : Nat → Nat} (hX : XR σ n y τ fl n2 y2 τ2 m cs rl ro rc) : Con 2 yX2_image cX2_image 1 (some .int) [.ref 0] σ (PI (fun r σ1 => r = rA ((0, nI y)) ∧ XR σ1 n y τ 1 n y τ m cs rl ro (rU rc ((0, nI y))) ∧ Fx σ σ1)) := by
  refine Con.of (by decide) (by simp [Value.category]) (Nat.le_of_ble_eq_true rfl) (fun x hB => ?_)
  show V x RX2 cX2_image 1 0 [some (.ref 0)] [] _
  have hN := hX.now
  have hn6 := hN.n6
  have hy9 := hX.y9
  refine V.aload_n (q := 1) dX2_image_0 rfl rfl ?_
  refine V.getR (q := 4) dX2_image_1 rfl kf_X2_16 rfl (by decide) rfl ?_
  refine V.aload_n (q := 5) dX2_image_4 rfl rfl ?_
  refine V.getR (q := 8) dX2_image_5 rfl kf_X2_12 rfl (by decide) rfl ?_
  refine V.cvv1 (q := 11) dX2_image_8 rfl kc_X2_106 rfl (by decide) rfl (hB.rm (by decide)) (Nat.le_of_ble_eq_true rfl) (c_copyFrom t10 t1 (by decide) hN) (fun τ8 hp8 => ?_)
  obtain ⟨hT1, hF1⟩ := hp8
  refine V.aload_n (q := 12) dX2_image_11 rfl rfl ?_
  refine V.iconst (q := 13) (v := nI 1) dX2_image_12 rfl (by decide +kernel) ?_
  refine V.putI (q := 16) dX2_image_13 rfl kp_X2_161 rfl (by decide) rfl (by decide +kernel) (by decide +kernel) ?_
  refine V.aload_n (q := 17) dX2_image_16 rfl rfl ?_
  refine V.getR (q := 20) dX2_image_17 rfl kf_X2_16 rfl (by decide) rfl ?_
  refine V.getIn (q := 23) dX2_image_20 rfl kf_X2_97 rfl (by decide) rfl (show _ = nI y from TA.n9 (hT1.wo (o := 0) (k := 10) (x := nI 1) (fun h9 => by omega))) ?_
  exact V.ret_int hB dX2_image_23 rfl ⟨_, rfl, ⟨rfl, hX.img hT1 hF1, fun o ho => by rw [w2_ne (by omega)]; exact hF1 o (by omega)⟩⟩

-- on
set_option maxHeartbeats 4000000 in
set_option maxRecDepth 100000 in
theorem p_on {σ : Sg} {n y : Nat} {τ : Nat → Nat → Nat} {fl n2 y2 : Nat} {τ2 : Nat → Nat → Nat} {m : Nat} {cs : Nat → Nat} {rl : Nat} {ro rc : Nat → Nat} (hX : XR σ n y τ fl n2 y2 τ2 m cs rl ro rc) : Con 2 yX2_on cX2_on 1 (some .int) [.ref 0] σ (PI (fun r σ1 => r = rA (q_on fl y2) ∧ XR σ1 (if fl = 0 then n else n2) (if fl = 0 then y else y2) (if fl = 0 then τ else τ2) fl n2 y2 τ2 m cs rl ro (rU rc (q_on fl y2)) ∧ Fx σ σ1)) := by
  refine Con.of (by decide) (by simp [Value.category]) (Nat.le_of_ble_eq_true rfl) (fun x hB => ?_)
  show V x RX2 cX2_on 1 0 [some (.ref 0)] [] _
  have hN := hX.now
  have hn6 := hN.n6
  have hy9 := hX.y9
  refine V.aload_n (q := 1) dX2_on_0 rfl rfl ?_
  refine V.getI (q := 4) dX2_on_1 rfl kf_X2_161 rfl (by decide) rfl (XR.fl0 hX) ?_
  refine V.ifN_ne (t := 14) (q := 7) dX2_on_4 (by decide) rfl (by have := hX.2.1.2.1; omega) (fun c4 => ?_) (fun c4 => ?_)
  · have hf1 : fl = 1 := by have := hX.2.1.2.1; omega
    obtain ⟨hK, hy29⟩ := hX.bk hf1
    refine V.aload_n (q := 15) dX2_on_14 rfl rfl ?_
    refine V.getR (q := 18) dX2_on_15 rfl kf_X2_12 rfl (by decide) rfl ?_
    refine V.aload_n (q := 19) dX2_on_18 rfl rfl ?_
    refine V.getR (q := 22) dX2_on_19 rfl kf_X2_16 rfl (by decide) rfl ?_
    refine V.cvv1 (q := 25) dX2_on_22 rfl kc_X2_106 rfl (by decide) rfl (hB.rm (by decide)) (Nat.le_of_ble_eq_true rfl) (c_copyFrom t1 t10 (by decide) hK) (fun τ22 hp22 => ?_)
    obtain ⟨hT1, hF1⟩ := hp22
    refine V.aload_n (q := 26) dX2_on_25 rfl rfl ?_
    refine V.getR (q := 29) dX2_on_26 rfl kf_X2_12 rfl (by decide) rfl ?_
    refine V.getIn (q := 32) dX2_on_29 rfl kf_X2_97 rfl (by decide) rfl (TA.n9 hT1) ?_
    exact V.ret_int hB dX2_on_32 rfl ⟨_, rfl, (by
    have hq : q_on fl y2 = (0, nI y2) := by unfold q_on; rw [if_neg c4]
    rw [if_neg c4, if_neg c4, if_neg c4, hq]
    exact ⟨rfl, hX.wn hT1 hy29 (fun o ho => hF1 o (by omega)), fun o ho => hF1 o (by omega)⟩)⟩
  · refine V.aload_n (q := 8) dX2_on_7 rfl rfl ?_
    refine V.bipush (q := 10) (v := (-3)) dX2_on_8 rfl (by decide +kernel) ?_
    refine V.cvi1 (q := 13) dX2_on_10 rfl kc_X2_53 rfl (by decide) rfl (hB.rm (by decide)) (Nat.le_of_ble_eq_true rfl) (p_refuse hX (k := 3) (v := -3) (by decide) (by decide) (by decide +kernel)) (fun r10 τ10 hp10 => ?_)
    obtain ⟨rfl, hz⟩ := hp10
    rw [hz]
    exact V.ret_int hB dX2_on_13 rfl ⟨_, rfl, (by
    have hq : q_on fl y2 = (3, 0) := by unfold q_on; rw [if_pos c4]
    rw [if_pos c4, if_pos c4, if_pos c4]; exact XP.no (v := -3) hX hq (by decide) (by decide +kernel))⟩

-- letter
set_option maxHeartbeats 4000000 in
set_option maxRecDepth 100000 in
theorem p_letter {σ : Sg} {n y : Nat} {τ : Nat → Nat → Nat} {fl n2 y2 : Nat} {τ2 : Nat → Nat → Nat} {m : Nat} {cs : Nat → Nat} {rl : Nat} {ro rc : Nat → Nat} (hX : XR σ n y τ fl n2 y2 τ2 m cs rl ro rc) (v : Int32) : Con 3 yX2_letter cX2_letter 3 (some .int) [.ref 0, .int v] σ (PI (fun r σ1 => r = rA (q_letter m v) ∧ XR σ1 n y τ fl n2 y2 τ2 (if (q_letter m v).1 = 0 then m + 1 else m) (if (q_letter m v).1 = 0 then upN cs m (tn v) else cs) rl ro (rU rc (q_letter m v)) ∧ Fx σ σ1)) := by
  refine Con.of (by decide) (by simp [Value.category]) (Nat.le_of_ble_eq_true rfl) (fun x hB => ?_)
  show V x RX2 cX2_letter 3 0 [some (.ref 0), some (.int v), none] [] _
  have hN := hX.now
  have hn6 := hN.n6
  have hy9 := hX.y9
  refine V.iconst (q := 1) (v := nI 1) dX2_letter_0 rfl (by decide +kernel) ?_
  refine V.iload_n (q := 2) dX2_letter_1 rfl rfl ?_
  refine V.iconst (q := 3) (v := nI 0) dX2_letter_2 rfl (by decide +kernel) ?_
  refine V.sipush (q := 6) (v := nI 255) dX2_letter_3 rfl (by decide +kernel) ?_
  refine V.csi4 (q := 9) dX2_letter_6 rfl kc_X2_45 (hB.rm (by decide)) (Nat.le_of_ble_eq_true rfl) (p_rof v 0 255 (by decide) (by decide)) (fun r6 τ6 hp6 => ?_)
  obtain ⟨hz, ⟨hrf, rfl⟩ | ⟨hrf, rfl⟩ | ⟨rfl, j, hj1, hj2, rfl⟩⟩ := hp6
  · rw [hz]
    refine V.ist2 (q := 10) dX2_letter_9 rfl ?_
    refine V.iload_n (q := 11) dX2_letter_10 rfl rfl ?_
    refine V.if_ne (t := 27) (q := 14) dX2_letter_11 (by decide) rfl  (fun c11 => ?_) (fun c11 => absurd c11 (by decide +kernel))
    refine V.iload_n (q := 28) dX2_letter_27 rfl rfl ?_
    refine V.if_eq (t := 37) (q := 31) dX2_letter_28 (by decide) rfl  (fun c28 => absurd c28 (by decide +kernel)) (fun c28 => ?_)
    refine V.aload_n (q := 32) dX2_letter_31 rfl rfl ?_
    refine V.iload_n (q := 33) dX2_letter_32 rfl rfl ?_
    refine V.cvi1 (q := 36) dX2_letter_33 rfl kc_X2_53 rfl (by decide) rfl (hB.rm (by decide)) (Nat.le_of_ble_eq_true rfl) (p_refuse hX (k := 4) (v := -4) (by decide) (by decide) (by decide +kernel)) (fun r33 τ33 hp33 => ?_)
    obtain ⟨rfl, hz⟩ := hp33
    rw [hz]
    exact V.ret_int hB dX2_letter_36 rfl ⟨_, rfl, (by
    have hq : q_letter m v = (4, 0) := by simp [q_letter, hrf]
    rw [if_neg (by rw [hq]; decide), if_neg (by rw [hq]; decide)]; exact XP.no (v := -4) hX hq (by decide) (by decide +kernel))⟩
  · rw [hz]
    refine V.ist2 (q := 10) dX2_letter_9 rfl ?_
    refine V.iload_n (q := 11) dX2_letter_10 rfl rfl ?_
    refine V.if_ne (t := 27) (q := 14) dX2_letter_11 (by decide) rfl  (fun c11 => ?_) (fun c11 => absurd c11 (by decide +kernel))
    refine V.iload_n (q := 28) dX2_letter_27 rfl rfl ?_
    refine V.if_eq (t := 37) (q := 31) dX2_letter_28 (by decide) rfl  (fun c28 => absurd c28 (by decide +kernel)) (fun c28 => ?_)
    refine V.aload_n (q := 32) dX2_letter_31 rfl rfl ?_
    refine V.iload_n (q := 33) dX2_letter_32 rfl rfl ?_
    refine V.cvi1 (q := 36) dX2_letter_33 rfl kc_X2_53 rfl (by decide) rfl (hB.rm (by decide)) (Nat.le_of_ble_eq_true rfl) (p_refuse hX (k := 6) (v := -6) (by decide) (by decide) (by decide +kernel)) (fun r33 τ33 hp33 => ?_)
    obtain ⟨rfl, hz⟩ := hp33
    rw [hz]
    exact V.ret_int hB dX2_letter_36 rfl ⟨_, rfl, (by
    have hq : q_letter m v = (6, 0) := by simp [q_letter, hrf]
    rw [if_neg (by rw [hq]; decide), if_neg (by rw [hq]; decide)]; exact XP.no (v := -6) hX hq (by decide) (by decide +kernel))⟩
  · rw [hz]
    refine V.ist2 (q := 10) dX2_letter_9 rfl ?_
    refine V.iload_n (q := 11) dX2_letter_10 rfl rfl ?_
    refine V.ifN_ne (t := 27) (q := 14) dX2_letter_11 (by decide) rfl (by omega) (fun c11 => absurd c11 (by decide +kernel)) (fun c11 => ?_)
    refine V.aload_n (q := 15) dX2_letter_14 rfl rfl ?_
    refine V.getR (q := 18) dX2_letter_15 rfl kf_X2_28 rfl (by decide) rfl ?_
    refine V.cvi0 (q := 21) dX2_letter_18 rfl kc_X2_49 rfl (by decide) rfl (hB.rm (by decide)) (Nat.le_of_ble_eq_true rfl) (x_isFull hX.tx) (fun r18 τ18 hp18 => ?_)
    obtain ⟨hz, ⟨rfl, hs⟩ | ⟨rfl, hs⟩⟩ := hp18
    · rw [hz]
      refine V.ifN_eq (t := 27) (q := 24) dX2_letter_21 (by decide) rfl (by omega) (fun c21 => absurd c21 (by decide +kernel)) (fun c21 => ?_)
      refine V.bipush (q := 26) (v := (-6)) dX2_letter_24 rfl (by decide +kernel) ?_
      refine V.ist2 (q := 27) dX2_letter_26 rfl ?_
      refine V.iload_n (q := 28) dX2_letter_27 rfl rfl ?_
      refine V.if_eq (t := 37) (q := 31) dX2_letter_28 (by decide) rfl  (fun c28 => absurd c28 (by decide +kernel)) (fun c28 => ?_)
      refine V.aload_n (q := 32) dX2_letter_31 rfl rfl ?_
      refine V.iload_n (q := 33) dX2_letter_32 rfl rfl ?_
      refine V.cvi1 (q := 36) dX2_letter_33 rfl kc_X2_53 rfl (by decide) rfl (hB.rm (by decide)) (Nat.le_of_ble_eq_true rfl) (p_refuse hX (k := 6) (v := -6) (by decide) (by decide) (by decide +kernel)) (fun r33 τ33 hp33 => ?_)
      obtain ⟨rfl, hz⟩ := hp33
      rw [hz]
      exact V.ret_int hB dX2_letter_36 rfl ⟨_, rfl, (by
    have hq : q_letter m (nI j) = (6, 0) := by simp [q_letter, rfN_in hj1 hj2 (show 255 < 2 ^ 20 by decide), hs]
    rw [if_neg (by rw [hq]; decide), if_neg (by rw [hq]; decide)]; exact XP.no (v := -6) hX hq (by decide) (by decide +kernel))⟩
    · rw [hz]
      refine V.ifN_eq (t := 27) (q := 24) dX2_letter_21 (by decide) rfl (by omega) (fun c21 => ?_) (fun c21 => absurd c21 (by decide +kernel))
      refine V.iload_n (q := 28) dX2_letter_27 rfl rfl ?_
      refine V.ifN_eq (t := 37) (q := 31) dX2_letter_28 (by decide) rfl (by omega) (fun c28 => ?_) (fun c28 => absurd c28 (by decide +kernel))
      refine V.aload_n (q := 38) dX2_letter_37 rfl rfl ?_
      refine V.getR (q := 41) dX2_letter_38 rfl kf_X2_28 rfl (by decide) rfl ?_
      refine V.iload_n (q := 42) dX2_letter_41 rfl rfl ?_
      refine V.i2c (q := 43) dX2_letter_42 rfl (i2c_all j (by omega)) ?_
      refine V.cvv1 (q := 46) dX2_letter_43 rfl kc_X2_57 rfl (by decide) rfl (hB.rm (by decide)) (Nat.le_of_ble_eq_true rfl) (x_append hX.tx hs (c := j) (by omega)) (fun τ43 hp43 => ?_)
      rw [hp43]
      refine V.aload_n (q := 47) dX2_letter_46 rfl rfl ?_
      refine V.getR (q := 50) dX2_letter_47 rfl kf_X2_28 rfl (by decide) rfl ?_
      refine V.getIn (q := 53) dX2_letter_50 rfl kf_X2_61 rfl (by decide) rfl (show _ = nI (m + 1) from w2_at) ?_
      exact V.ret_int hB dX2_letter_53 rfl ⟨_, rfl, (by
    have hq : q_letter m (nI j) = (0, nI (m + 1)) := by simp [q_letter, rfN_in hj1 hj2 (show 255 < 2 ^ 20 by decide), show ¬ m = 64 by omega]
    rw [if_pos (by rw [hq]), if_pos (by rw [hq]), hq, tn_nI (by omega)]
    exact ⟨rfl, hX.app hs (by omega), fun o ho => by rw [w2_ne (by omega), w2_ne (by omega)]⟩)⟩

-- row
set_option maxHeartbeats 4000000 in
set_option maxRecDepth 100000 in
theorem p_row {σ : Sg} {n y : Nat} {τ : Nat → Nat → Nat} {fl n2 y2 : Nat} {τ2 : Nat → Nat → Nat} {m : Nat} {cs : Nat → Nat} {rl : Nat} {ro rc : Nat → Nat} (hX : XR σ n y τ fl n2 y2 τ2 m cs rl ro rc) (v : Int32) : Con 2 yX2_row cX2_row 3 (some .int) [.ref 0, .int v] σ (PI (fun r σ1 => r = rA (q_row rl v) ∧ XR σ1 n y τ fl n2 y2 τ2 m cs (if (q_row rl v).1 = 0 then rl + 1 else rl) (if (q_row rl v).1 = 0 then upN ro rl (tn v) else ro) (rU rc (q_row rl v)) ∧ Fx σ σ1)) := by
  refine Con.of (by decide) (by simp [Value.category]) (Nat.le_of_ble_eq_true rfl) (fun x hB => ?_)
  show V x RX2 cX2_row 3 0 [some (.ref 0), some (.int v), none] [] _
  have hN := hX.now
  have hn6 := hN.n6
  have hy9 := hX.y9
  refine V.iconst (q := 1) (v := nI 1) dX2_row_0 rfl (by decide +kernel) ?_
  refine V.iload_n (q := 2) dX2_row_1 rfl rfl ?_
  refine V.iconst (q := 3) (v := nI 0) dX2_row_2 rfl (by decide +kernel) ?_
  refine V.bipush (q := 5) (v := nI 9) dX2_row_3 rfl (by decide +kernel) ?_
  refine V.csi4 (q := 8) dX2_row_5 rfl kc_X2_45 (hB.rm (by decide)) (Nat.le_of_ble_eq_true rfl) (p_rof v 0 9 (by decide) (by decide)) (fun r5 τ5 hp5 => ?_)
  obtain ⟨hz, ⟨hrf, rfl⟩ | ⟨hrf, rfl⟩ | ⟨rfl, j, hj1, hj2, rfl⟩⟩ := hp5
  · rw [hz]
    refine V.ist2 (q := 9) dX2_row_8 rfl ?_
    refine V.iload_n (q := 10) dX2_row_9 rfl rfl ?_
    refine V.if_ne (t := 28) (q := 13) dX2_row_10 (by decide) rfl  (fun c10 => ?_) (fun c10 => absurd c10 (by decide +kernel))
    refine V.iload_n (q := 29) dX2_row_28 rfl rfl ?_
    refine V.if_eq (t := 38) (q := 32) dX2_row_29 (by decide) rfl  (fun c29 => absurd c29 (by decide +kernel)) (fun c29 => ?_)
    refine V.aload_n (q := 33) dX2_row_32 rfl rfl ?_
    refine V.iload_n (q := 34) dX2_row_33 rfl rfl ?_
    refine V.cvi1 (q := 37) dX2_row_34 rfl kc_X2_53 rfl (by decide) rfl (hB.rm (by decide)) (Nat.le_of_ble_eq_true rfl) (p_refuse hX (k := 4) (v := -4) (by decide) (by decide) (by decide +kernel)) (fun r34 τ34 hp34 => ?_)
    obtain ⟨rfl, hz⟩ := hp34
    rw [hz]
    exact V.ret_int hB dX2_row_37 rfl ⟨_, rfl, (by
    have hq : q_row rl v = (4, 0) := by simp [q_row, hrf]
    rw [if_neg (by rw [hq]; decide), if_neg (by rw [hq]; decide)]; exact XP.no (v := -4) hX hq (by decide) (by decide +kernel))⟩
  · rw [hz]
    refine V.ist2 (q := 9) dX2_row_8 rfl ?_
    refine V.iload_n (q := 10) dX2_row_9 rfl rfl ?_
    refine V.if_ne (t := 28) (q := 13) dX2_row_10 (by decide) rfl  (fun c10 => ?_) (fun c10 => absurd c10 (by decide +kernel))
    refine V.iload_n (q := 29) dX2_row_28 rfl rfl ?_
    refine V.if_eq (t := 38) (q := 32) dX2_row_29 (by decide) rfl  (fun c29 => absurd c29 (by decide +kernel)) (fun c29 => ?_)
    refine V.aload_n (q := 33) dX2_row_32 rfl rfl ?_
    refine V.iload_n (q := 34) dX2_row_33 rfl rfl ?_
    refine V.cvi1 (q := 37) dX2_row_34 rfl kc_X2_53 rfl (by decide) rfl (hB.rm (by decide)) (Nat.le_of_ble_eq_true rfl) (p_refuse hX (k := 6) (v := -6) (by decide) (by decide) (by decide +kernel)) (fun r34 τ34 hp34 => ?_)
    obtain ⟨rfl, hz⟩ := hp34
    rw [hz]
    exact V.ret_int hB dX2_row_37 rfl ⟨_, rfl, (by
    have hq : q_row rl v = (6, 0) := by simp [q_row, hrf]
    rw [if_neg (by rw [hq]; decide), if_neg (by rw [hq]; decide)]; exact XP.no (v := -6) hX hq (by decide) (by decide +kernel))⟩
  · rw [hz]
    refine V.ist2 (q := 9) dX2_row_8 rfl ?_
    refine V.iload_n (q := 10) dX2_row_9 rfl rfl ?_
    refine V.ifN_ne (t := 28) (q := 13) dX2_row_10 (by decide) rfl (by omega) (fun c10 => absurd c10 (by decide +kernel)) (fun c10 => ?_)
    refine V.aload_n (q := 14) dX2_row_13 rfl rfl ?_
    refine V.getI (q := 17) dX2_row_14 rfl kf_X2_151 rfl (by decide) rfl (XR.rl0 hX) ?_
    refine V.aload_n (q := 18) dX2_row_17 rfl rfl ?_
    refine V.getR (q := 21) dX2_row_18 rfl kf_X2_39 rfl (by decide) rfl ?_
    refine V.alen (q := 22) dX2_row_21 rfl rfl (by decide) ?_
    refine V.icmpN_lt (t := 28) (q := 25) dX2_row_22 (by decide) rfl (by have := hX.rl6; omega) (by omega) (fun c22 => ?_) (fun c22 => ?_)
    · refine V.iload_n (q := 29) dX2_row_28 rfl rfl ?_
      refine V.ifN_eq (t := 38) (q := 32) dX2_row_29 (by decide) rfl (by omega) (fun c29 => ?_) (fun c29 => absurd c29 (by decide +kernel))
      refine V.aload_n (q := 39) dX2_row_38 rfl rfl ?_
      refine V.getR (q := 42) dX2_row_39 rfl kf_X2_39 rfl (by decide) rfl ?_
      refine V.aload_n (q := 43) dX2_row_42 rfl rfl ?_
      refine V.getI (q := 46) dX2_row_43 rfl kf_X2_151 rfl (by decide) rfl (XR.rl0 hX) ?_
      refine V.iload_n (q := 47) dX2_row_46 rfl rfl ?_
      refine V.iastN (q := 48) dX2_row_47 rfl rfl (by decide) (by omega) (by decide) ?_
      refine V.aload_n (q := 49) dX2_row_48 rfl rfl ?_
      refine V.dup (q := 50) dX2_row_49 rfl rfl ?_
      refine V.getI (q := 53) dX2_row_50 rfl kf_X2_151 rfl (by decide) rfl (show _ = nI rl by rw [w2_ne (by decide)]; exact XR.rl0 hX) ?_
      refine V.iconst (q := 54) (v := nI 1) dX2_row_53 rfl (by decide +kernel) ?_
      refine V.iaddN (q := 55) dX2_row_54 rfl ?_
      refine V.putI (q := 58) dX2_row_55 rfl kp_X2_151 rfl (by decide) rfl rfl rfl ?_
      refine V.aload_n (q := 59) dX2_row_58 rfl rfl ?_
      refine V.getI (q := 62) dX2_row_59 rfl kf_X2_151 rfl (by decide) rfl (show _ = nI (rl + 1) from w2_at) ?_
      exact V.ret_int hB dX2_row_62 rfl ⟨_, rfl, (by
    have hq : q_row rl (nI j) = (0, nI (rl + 1)) := by simp [q_row, rfN_in hj1 hj2 (show 9 < 2 ^ 20 by decide), show ¬ rl = 6 by omega]
    rw [if_pos (by rw [hq]), if_pos (by rw [hq]), hq, tn_nI (by omega)]
    exact ⟨rfl, hX.row c22 hj2, fun o ho => by rw [w2_ne (by omega), w2_ne (by omega)]⟩)⟩
    · refine V.bipush (q := 27) (v := (-6)) dX2_row_25 rfl (by decide +kernel) ?_
      refine V.ist2 (q := 28) dX2_row_27 rfl ?_
      refine V.iload_n (q := 29) dX2_row_28 rfl rfl ?_
      refine V.if_eq (t := 38) (q := 32) dX2_row_29 (by decide) rfl  (fun c29 => absurd c29 (by decide +kernel)) (fun c29 => ?_)
      refine V.aload_n (q := 33) dX2_row_32 rfl rfl ?_
      refine V.iload_n (q := 34) dX2_row_33 rfl rfl ?_
      refine V.cvi1 (q := 37) dX2_row_34 rfl kc_X2_53 rfl (by decide) rfl (hB.rm (by decide)) (Nat.le_of_ble_eq_true rfl) (p_refuse hX (k := 6) (v := -6) (by decide) (by decide) (by decide +kernel)) (fun r34 τ34 hp34 => ?_)
      obtain ⟨rfl, hz⟩ := hp34
      rw [hz]
      exact V.ret_int hB dX2_row_37 rfl ⟨_, rfl, (by
    have hr6 := hX.rl6
    have hq : q_row rl (nI j) = (6, 0) := by simp [q_row, rfN_in hj1 hj2 (show 9 < 2 ^ 20 by decide), show rl = 6 by omega]
    rw [if_neg (by rw [hq]; decide), if_neg (by rw [hq]; decide)]; exact XP.no (v := -6) hX hq (by decide) (by decide +kernel))⟩

-- count
set_option maxHeartbeats 4000000 in
set_option maxRecDepth 100000 in
theorem p_count {σ : Sg} {n y : Nat} {τ : Nat → Nat → Nat} {fl n2 y2 : Nat} {τ2 : Nat → Nat → Nat} {m : Nat} {cs : Nat → Nat} {rl : Nat} {ro rc : Nat → Nat} (hX : XR σ n y τ fl n2 y2 τ2 m cs rl ro rc) (v : Int32) : Con 3 yX2_count cX2_count 3 (some .int) [.ref 0, .int v] σ (PI (XP σ n y τ fl n2 y2 τ2 m cs rl ro rc (q_count n y τ rl m rc v))) := by
  refine Con.of (by decide) (by simp [Value.category]) (Nat.le_of_ble_eq_true rfl) (fun x hB => ?_)
  show V x RX2 cX2_count 3 0 [some (.ref 0), some (.int v), none] [] _
  have hN := hX.now
  have hn6 := hN.n6
  have hy9 := hX.y9
  refine V.iload_n (q := 1) dX2_count_0 rfl rfl ?_
  refine V.bipush (q := 3) (v := nI 10) dX2_count_1 rfl (by decide +kernel) ?_
  rcases sN_or17 v with ⟨k, hk1, hk2, rfl⟩ | rfl | rfl | rfl | rfl | rfl | rfl | hv
  · refine V.isubN (q := 4) dX2_count_3 rfl (by omega) ?_
    refine V.ist2 (q := 5) dX2_count_4 rfl ?_
    refine V.iload_n (q := 6) dX2_count_5 rfl rfl ?_
    refine V.iconst (q := 7) (v := nI 1) dX2_count_6 rfl (by decide +kernel) ?_
    refine V.icmpN_lt (t := 23) (q := 10) dX2_count_7 (by decide) rfl (by omega) (by omega) (fun c7 => absurd c7 (by omega)) (fun c7 => ?_)
    refine V.iload_n (q := 11) dX2_count_10 rfl rfl ?_
    refine V.bipush (q := 13) (v := nI 6) dX2_count_11 rfl (by decide +kernel) ?_
    refine V.icmpN_gt (t := 23) (q := 16) dX2_count_13 (by decide) rfl (by omega) (by omega) (fun c13 => absurd c13 (by omega)) (fun c13 => ?_)
    refine V.aload_n (q := 17) dX2_count_16 rfl rfl ?_
    refine V.getR (q := 20) dX2_count_17 rfl kf_X2_42 rfl (by decide) rfl ?_
    refine V.iload_n (q := 21) dX2_count_20 rfl rfl ?_
    refine V.ialdN (q := 22) dX2_count_21 rfl rfl (by decide) (by omega) (by decide) (hX.rc0 (show 1 ≤ k - 10 by omega) (by omega)) ?_
    exact V.ret_int hB dX2_count_22 rfl ⟨_, rfl, XP.yes hX (Fs.rf) (by unfold q_count; rw [stN_some (show k < 17 by omega) (by decide)]; simp only []; rw [if_pos hk1])⟩
  · refine V.isub (q := 4) dX2_count_3 rfl ?_
    refine V.ist2 (q := 5) dX2_count_4 rfl ?_
    refine V.iload_n (q := 6) dX2_count_5 rfl rfl ?_
    refine V.iconst (q := 7) (v := nI 1) dX2_count_6 rfl (by decide +kernel) ?_
    refine V.icmp_lt (t := 23) (q := 10) dX2_count_7 (by decide) rfl  (fun c7 => ?_) (fun c7 => absurd c7 (by decide +kernel))
    refine V.iload_n (q := 24) dX2_count_23 rfl rfl ?_
    refine V.tableIn (q := 64) (off := 40) dX2_count_24 (by decide +kernel) (by decide +kernel) rfl (by decide) ?_
    refine V.aload_n (q := 65) dX2_count_64 rfl rfl ?_
    refine V.getR (q := 68) dX2_count_65 rfl kf_X2_12 rfl (by decide) rfl ?_
    refine V.getIn (q := 71) dX2_count_68 rfl kf_X2_120 rfl (by decide) rfl (TA.n8 hN) ?_
    exact V.ret_int hB dX2_count_71 rfl ⟨_, rfl, XP.yes hX (Fs.rf) (by simp [q_count, stN_some (show 0 < 17 by decide) (by decide)])⟩
  · refine V.isub (q := 4) dX2_count_3 rfl ?_
    refine V.ist2 (q := 5) dX2_count_4 rfl ?_
    refine V.iload_n (q := 6) dX2_count_5 rfl rfl ?_
    refine V.iconst (q := 7) (v := nI 1) dX2_count_6 rfl (by decide +kernel) ?_
    refine V.icmp_lt (t := 23) (q := 10) dX2_count_7 (by decide) rfl  (fun c7 => ?_) (fun c7 => absurd c7 (by decide +kernel))
    refine V.iload_n (q := 24) dX2_count_23 rfl rfl ?_
    refine V.tableIn (q := 72) (off := 48) dX2_count_24 (by decide +kernel) (by decide +kernel) rfl (by decide) ?_
    refine V.aload_n (q := 73) dX2_count_72 rfl rfl ?_
    refine V.getR (q := 76) dX2_count_73 rfl kf_X2_12 rfl (by decide) rfl ?_
    refine V.getIn (q := 79) dX2_count_76 rfl kf_X2_97 rfl (by decide) rfl (TA.n9 hN) ?_
    exact V.ret_int hB dX2_count_79 rfl ⟨_, rfl, XP.yes hX (Fs.rf) (by simp [q_count, stN_some (show 1 < 17 by decide) (by decide)])⟩
  · refine V.isub (q := 4) dX2_count_3 rfl ?_
    refine V.ist2 (q := 5) dX2_count_4 rfl ?_
    refine V.iload_n (q := 6) dX2_count_5 rfl rfl ?_
    refine V.iconst (q := 7) (v := nI 1) dX2_count_6 rfl (by decide +kernel) ?_
    refine V.icmp_lt (t := 23) (q := 10) dX2_count_7 (by decide) rfl  (fun c7 => ?_) (fun c7 => absurd c7 (by decide +kernel))
    refine V.iload_n (q := 24) dX2_count_23 rfl rfl ?_
    refine V.tableIn (q := 80) (off := 56) dX2_count_24 (by decide +kernel) (by decide +kernel) rfl (by decide) ?_
    refine V.aload_n (q := 81) dX2_count_80 rfl rfl ?_
    refine V.getR (q := 84) dX2_count_81 rfl kf_X2_12 rfl (by decide) rfl ?_
    refine V.cvi0 (q := 87) dX2_count_84 rfl kc_X2_103 rfl (by decide) rfl (hB.rm (by decide)) (Nat.le_of_ble_eq_true rfl) (c_mudOfAll t1 hN) (fun r84 τ84 hp84 => ?_)
    obtain ⟨rfl, hz⟩ := hp84
    rw [hz]
    exact V.ret_int hB dX2_count_87 rfl ⟨_, rfl, XP.yes hX (Fs.rf) (by simp [q_count, stN_some (show 2 < 17 by decide) (by decide)])⟩
  · refine V.isub (q := 4) dX2_count_3 rfl ?_
    refine V.ist2 (q := 5) dX2_count_4 rfl ?_
    refine V.iload_n (q := 6) dX2_count_5 rfl rfl ?_
    refine V.iconst (q := 7) (v := nI 1) dX2_count_6 rfl (by decide +kernel) ?_
    refine V.icmp_lt (t := 23) (q := 10) dX2_count_7 (by decide) rfl  (fun c7 => ?_) (fun c7 => absurd c7 (by decide +kernel))
    refine V.iload_n (q := 24) dX2_count_23 rfl rfl ?_
    refine V.tableIn (q := 88) (off := 64) dX2_count_24 (by decide +kernel) (by decide +kernel) rfl (by decide) ?_
    refine V.aload_n (q := 89) dX2_count_88 rfl rfl ?_
    refine V.getR (q := 92) dX2_count_89 rfl kf_X2_12 rfl (by decide) rfl ?_
    refine V.cvi0 (q := 95) dX2_count_92 rfl kc_X2_165 rfl (by decide) rfl (hB.rm (by decide)) (Nat.le_of_ble_eq_true rfl) (c_penceOfAll t1 hN) (fun r92 τ92 hp92 => ?_)
    obtain ⟨rfl, hz⟩ := hp92
    rw [hz]
    exact V.ret_int hB dX2_count_95 rfl ⟨_, rfl, XP.yes hX (Fs.rf) (by simp [q_count, stN_some (show 3 < 17 by decide) (by decide)])⟩
  · refine V.isub (q := 4) dX2_count_3 rfl ?_
    refine V.ist2 (q := 5) dX2_count_4 rfl ?_
    refine V.iload_n (q := 6) dX2_count_5 rfl rfl ?_
    refine V.iconst (q := 7) (v := nI 1) dX2_count_6 rfl (by decide +kernel) ?_
    refine V.icmp_lt (t := 23) (q := 10) dX2_count_7 (by decide) rfl  (fun c7 => ?_) (fun c7 => absurd c7 (by decide +kernel))
    refine V.iload_n (q := 24) dX2_count_23 rfl rfl ?_
    refine V.tableIn (q := 96) (off := 72) dX2_count_24 (by decide +kernel) (by decide +kernel) rfl (by decide) ?_
    refine V.aload_n (q := 97) dX2_count_96 rfl rfl ?_
    refine V.getI (q := 100) dX2_count_97 rfl kf_X2_151 rfl (by decide) rfl (XR.rl0 hX) ?_
    exact V.ret_int hB dX2_count_100 rfl ⟨_, rfl, XP.yes hX (Fs.rf) (by simp [q_count, stN_some (show 4 < 17 by decide) (by decide)])⟩
  · refine V.isub (q := 4) dX2_count_3 rfl ?_
    refine V.ist2 (q := 5) dX2_count_4 rfl ?_
    refine V.iload_n (q := 6) dX2_count_5 rfl rfl ?_
    refine V.iconst (q := 7) (v := nI 1) dX2_count_6 rfl (by decide +kernel) ?_
    refine V.icmp_lt (t := 23) (q := 10) dX2_count_7 (by decide) rfl  (fun c7 => ?_) (fun c7 => absurd c7 (by decide +kernel))
    refine V.iload_n (q := 24) dX2_count_23 rfl rfl ?_
    refine V.tableIn (q := 101) (off := 77) dX2_count_24 (by decide +kernel) (by decide +kernel) rfl (by decide) ?_
    refine V.aload_n (q := 102) dX2_count_101 rfl rfl ?_
    refine V.getR (q := 105) dX2_count_102 rfl kf_X2_28 rfl (by decide) rfl ?_
    refine V.getIn (q := 108) dX2_count_105 rfl kf_X2_61 rfl (by decide) rfl (TX.n (XR.tx hX)) ?_
    exact V.ret_int hB dX2_count_108 rfl ⟨_, rfl, XP.yes hX (Fs.rf) (by simp [q_count, stN_some (show 5 < 17 by decide) (by decide)])⟩
  · refine V.isub (q := 4) dX2_count_3 rfl ?_
    refine V.ist2 (q := 5) dX2_count_4 rfl ?_
    refine V.iload_n (q := 6) dX2_count_5 rfl rfl ?_
    refine V.iconst (q := 7) (v := nI 1) dX2_count_6 rfl (by decide +kernel) ?_
    refine V.icmp_lt (t := 23) (q := 10) dX2_count_7 (by decide) rfl  (fun c7 => ?_) (fun c7 => ?_)
    · refine V.iload_n (q := 24) dX2_count_23 rfl rfl ?_
      refine V.tableOut (q := 109) dX2_count_24 (cnt_sw hv) (by decide) ?_
      refine V.bipush (q := 111) (v := (-9)) dX2_count_109 rfl (by decide +kernel) ?_
      exact V.ret_int hB dX2_count_111 rfl ⟨_, rfl, XP.yes hX (Fs.rf) (cnt_q hv)⟩
    · refine V.iload_n (q := 11) dX2_count_10 rfl rfl ?_
      refine V.bipush (q := 13) (v := nI 6) dX2_count_11 rfl (by decide +kernel) ?_
      refine V.icmp_gt (t := 23) (q := 16) dX2_count_13 (by decide) rfl  (fun c13 => ?_) (fun c13 => ?_)
      · refine V.iload_n (q := 24) dX2_count_23 rfl rfl ?_
        refine V.tableOut (q := 109) dX2_count_24 (cnt_sw hv) (by decide) ?_
        refine V.bipush (q := 111) (v := (-9)) dX2_count_109 rfl (by decide +kernel) ?_
        exact V.ret_int hB dX2_count_111 rfl ⟨_, rfl, XP.yes hX (Fs.rf) (cnt_q hv)⟩
      · exact absurd (cnt_out hv c7 c13) id

