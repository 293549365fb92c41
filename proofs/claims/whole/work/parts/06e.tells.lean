-- leave(k)
set_option maxHeartbeats 4000000 in
set_option maxRecDepth 100000 in
theorem c_leave {σ : Sg} {t n y z l : Nat} {τ : Nat → Nat → Nat} (ht : isT t) (hT : TA σ t n y z l τ) {k : Nat} (hk : k < n) : Con 3 yX1_leave cX1_leave 3 none [.ref t, .int (nI k)] σ (PV (fun σ1 => TA σ1 t n y z k (leaveM τ k) ∧ Fr t σ σ1)) := by
  refine Con.of (by decide) (by simp [Value.category]) (Nat.le_of_ble_eq_true rfl) (fun x hB => ?_)
  show V x RX1 cX1_leave 3 0 [some (.ref t), some (.int (nI k)), none] [] _
  have hn6 := hT.n6
  have hyb := hT.yb
  refine V.aload_n (q := 1) dX1_leave_0 rfl rfl ?_
  refine V.iload_n (q := 2) dX1_leave_1 rfl rfl ?_
  refine V.putI (q := 5) dX1_leave_2 rfl kp_X1_40 (shT ht) (loT ht) rfl rfl rfl ?_
  have hT1 : TA (w2 σ t 11 (nI k)) t n y z k τ := by
    have h9 := hT.wl (l2 := k)
    rwa [nz_in (by omega)] at h9
  have hme := (hT.w k hk).2.2.2.2.2.1
  refine V.iconst (q := 6) (v := nI 0) dX1_leave_5 rfl (by decide +kernel) ?_
  refine V.ist2 (q := 7) dX1_leave_6 rfl ?_
  have loop : ∀ j, j ≤ n → ∀ σ1 τ1, TA σ1 t n y z k τ1 → Fr t σ σ1 → (∀ q, q < n → τ1 5 q = if q < j ∧ τ 5 q = k then τ 5 k else τ 5 q) → (∀ f, f ≠ 5 → τ1 f = τ f) → V x RX1 cX1_leave 3 7 [some (.ref t), some (.int (nI k)), some (.int (nI j))] [] σ1 := by
    refine down n (fun j hj ih σ1 τ1 hT1 hF1 e5 ef => ?_)
    have ek : τ1 5 k = τ 5 k := by
      rw [e5 k hk]; split
      · rfl
      · rfl
    refine V.iload_n (q := 8) dX1_leave_7 rfl rfl ?_
    refine V.aload_n (q := 9) dX1_leave_8 rfl rfl ?_
    refine V.getI (q := 12) dX1_leave_9 rfl kf_X1_49 (shT ht) (loT ht) rfl (TA.n8 hT1) ?_
    refine V.icmpN_ge (t := 42) (q := 15) dX1_leave_12 (by decide) rfl (by omega) (by omega) (fun c12 => ?_) (fun c12 => ?_)
    · have ej : j = n := by omega
      subst ej
      exact V.ret_v hB dX1_leave_42 ⟨rfl, ⟨hT1.cg (fun f hf i hi => by
      by_cases h5 : f = 5
      · subst h5
        rw [e5 i hi]; unfold leaveM; rw [setF_at]
        by_cases h8 : τ 5 i = k
        · rw [if_pos ⟨hi, h8⟩, if_pos h8]
        · rw [if_neg (fun h7 => h8 h7.2), if_neg h8]
      · unfold leaveM; rw [setF_ne h5, ef f h5]), hF1⟩⟩
    · have hw := hT1.w j c12
      have e5j := e5 j c12
      rw [if_neg (by omega)] at e5j
      refine V.aload_n (q := 16) dX1_leave_15 rfl rfl ?_
      refine V.getR (q := 19) dX1_leave_16 rfl kf_X1_27 (shT ht) (loT ht) rfl ?_
      refine V.iload_n (q := 20) dX1_leave_19 rfl rfl ?_
      refine V.ialdN (q := 21) dX1_leave_20 rfl (shTa ht 6 (by decide) (by decide)) (loTa ht 6 (by decide)) (by omega) (by decide) (TA.a hT1 5 (by decide) (by omega)) ?_
      refine V.iload_n (q := 22) dX1_leave_21 rfl rfl ?_
      refine V.icmpN_ne (t := 36) (q := 25) dX1_leave_22 (by decide) rfl (by omega) (by omega) (fun c22 => ?_) (fun c22 => ?_)
      · 
        refine V.inc2 (q := 39) dX1_leave_36 rfl (inc1 _) ?_
        refine V.goto (q := 7) dX1_leave_39 (by decide) ?_
        refine ih c12 _ _ hT1 hF1 (fun q hq => ?_) ef
        rw [e5 q hq]
        by_cases h9 : q = j
        · subst h9
          rw [if_neg (by omega), if_neg (fun h8 => c22 (by rw [e5j]; exact h8.2))]
        · by_cases h8 : q < j ∧ τ 5 q = k
          · rw [if_pos h8, if_pos ⟨by omega, h8.2⟩]
          · rw [if_neg h8, if_neg (fun h7 => h8 ⟨by omega, h7.2⟩)]
      · refine V.aload_n (q := 26) dX1_leave_25 rfl rfl ?_
        refine V.getR (q := 29) dX1_leave_26 rfl kf_X1_27 (shT ht) (loT ht) rfl ?_
        refine V.iload_n (q := 30) dX1_leave_29 rfl rfl ?_
        refine V.aload_n (q := 31) dX1_leave_30 rfl rfl ?_
        refine V.iload_n (q := 32) dX1_leave_31 rfl rfl ?_
        refine V.cvi1 (q := 35) dX1_leave_32 rfl kc_X1_67 (shT ht) (loT ht) rfl (hB.rm (by decide)) (Nat.le_of_ble_eq_true rfl) (c_stepFrom ht hT1 hk) (fun r32 τ32 hp32 => ?_)
        obtain ⟨rfl, hz⟩ := hp32
        rw [hz]
        refine V.iastN (q := 36) dX1_leave_35 rfl (shTa ht 6 (by decide) (by decide)) (loTa ht 6 (by decide)) (by omega) (by decide) ?_
        have hT2 := hT1.wr (f := 5) (v := τ1 5 k) (by decide) c12 (by unfold okF; omega)
        have hF2 := hF1.w (o := t + 6) (k := j) (x := nI (τ1 5 k)) (by omega) (by omega)
        refine V.inc2 (q := 39) dX1_leave_36 rfl (inc1 _) ?_
        refine V.goto (q := 7) dX1_leave_39 (by decide) ?_
        refine ih c12 _ _ hT2 hF2 (fun q hq => ?_) (fun f hf => by rw [setF_ne hf]; exact ef f hf)
        rw [setF_at]; unfold upN
        by_cases h9 : q = j
        · subst h9
          rw [if_pos rfl, if_pos ⟨by omega, by rw [← e5j]; exact c22⟩, ek]
        · rw [if_neg h9, e5 q hq]
          by_cases h8 : q < j ∧ τ 5 q = k
          · rw [if_pos h8, if_pos ⟨by omega, h8.2⟩]
          · rw [if_neg h8, if_neg (fun h7 => h8 ⟨by omega, h7.2⟩)]
  exact loop 0 (Nat.zero_le _) _ τ hT1 (Fr.rf.w (by omega) (by omega)) (fun q hq => by rw [if_neg (by omega)]) (fun _ _ => rfl)

-- add(a, b, c, d)
set_option maxHeartbeats 4000000 in
set_option maxRecDepth 100000 in
theorem c_add {σ : Sg} {t n : Nat} (ht : isT t) (hn6 : n ≤ 6) (h8 : σ t 8 = nI n) (hn : n < 6) {a b c d : Nat} : Con 2 yX1_add cX1_add 5 none [.ref t, .int (nI a), .int (nI b), .int (nI c), .int (nI d)] σ (PV (fun σ1 => σ1 = addS σ t n a b c d)) := by
  refine Con.of (by decide) (by simp [Value.category]) (Nat.le_of_ble_eq_true rfl) (fun x hB => ?_)
  show V x RX1 cX1_add 5 0 [some (.ref t), some (.int (nI a)), some (.int (nI b)), some (.int (nI c)), some (.int (nI d))] [] _
  refine V.aload_n (q := 1) dX1_add_0 rfl rfl ?_
  refine V.cvi0 (q := 4) dX1_add_1 rfl kc_X1_55 (shT ht) (loT ht) rfl (hB.rm (by decide)) (Nat.le_of_ble_eq_true rfl) (c_isF0 ht hn6 h8 hn) (fun r1 τ1 hp1 => ?_)
  obtain ⟨rfl, hz⟩ := hp1
  rw [hz]
  refine V.ifN_eq (t := 8) (q := 7) dX1_add_4 (by decide) rfl (by omega) (fun c4 => ?_) (fun c4 => absurd c4 (by decide +kernel))
  refine V.aload_n (q := 9) dX1_add_8 rfl rfl ?_
  refine V.getR (q := 12) dX1_add_9 rfl kf_X1_9 (shT ht) (loT ht) rfl ?_
  refine V.aload_n (q := 13) dX1_add_12 rfl rfl ?_
  refine V.getI (q := 16) dX1_add_13 rfl kf_X1_49 (shT ht) (loT ht) rfl h8 ?_
  refine V.iload_n (q := 17) dX1_add_16 rfl rfl ?_
  refine V.iastN (q := 18) dX1_add_17 rfl (shTa ht 1 (by decide) (by decide)) (loTa ht 1 (by decide)) (by omega) (by decide) ?_
  refine V.aload_n (q := 19) dX1_add_18 rfl rfl ?_
  refine V.getR (q := 22) dX1_add_19 rfl kf_X1_15 (shT ht) (loT ht) rfl ?_
  refine V.aload_n (q := 23) dX1_add_22 rfl rfl ?_
  refine V.getI (q := 26) dX1_add_23 rfl kf_X1_49 (shT ht) (loT ht) rfl (show _ = nI n by simp [w2_rd, h8]) ?_
  refine V.iload_n (q := 27) dX1_add_26 rfl rfl ?_
  refine V.iastN (q := 28) dX1_add_27 rfl (shTa ht 2 (by decide) (by decide)) (loTa ht 2 (by decide)) (by omega) (by decide) ?_
  refine V.aload_n (q := 29) dX1_add_28 rfl rfl ?_
  refine V.getR (q := 32) dX1_add_29 rfl kf_X1_18 (shT ht) (loT ht) rfl ?_
  refine V.aload_n (q := 33) dX1_add_32 rfl rfl ?_
  refine V.getI (q := 36) dX1_add_33 rfl kf_X1_49 (shT ht) (loT ht) rfl (show _ = nI n by simp [w2_rd, h8]) ?_
  refine V.iload_n (q := 37) dX1_add_36 rfl rfl ?_
  refine V.iastN (q := 38) dX1_add_37 rfl (shTa ht 3 (by decide) (by decide)) (loTa ht 3 (by decide)) (by omega) (by decide) ?_
  refine V.aload_n (q := 39) dX1_add_38 rfl rfl ?_
  refine V.getR (q := 42) dX1_add_39 rfl kf_X1_21 (shT ht) (loT ht) rfl ?_
  refine V.aload_n (q := 43) dX1_add_42 rfl rfl ?_
  refine V.getI (q := 46) dX1_add_43 rfl kf_X1_49 (shT ht) (loT ht) rfl (show _ = nI n by simp [w2_rd, h8]) ?_
  refine V.iload (q := 48) dX1_add_46 rfl rfl ?_
  refine V.iastN (q := 49) dX1_add_48 rfl (shTa ht 4 (by decide) (by decide)) (loTa ht 4 (by decide)) (by omega) (by decide) ?_
  refine V.aload_n (q := 50) dX1_add_49 rfl rfl ?_
  refine V.getR (q := 53) dX1_add_50 rfl kf_X1_24 (shT ht) (loT ht) rfl ?_
  refine V.aload_n (q := 54) dX1_add_53 rfl rfl ?_
  refine V.getI (q := 57) dX1_add_54 rfl kf_X1_49 (shT ht) (loT ht) rfl (show _ = nI n by simp [w2_rd, h8]) ?_
  refine V.bipush (q := 59) (v := nI 9) dX1_add_57 rfl (by decide +kernel) ?_
  refine V.iastN (q := 60) dX1_add_59 rfl (shTa ht 5 (by decide) (by decide)) (loTa ht 5 (by decide)) (by omega) (by decide) ?_
  refine V.aload_n (q := 61) dX1_add_60 rfl rfl ?_
  refine V.getR (q := 64) dX1_add_61 rfl kf_X1_27 (shT ht) (loT ht) rfl ?_
  refine V.aload_n (q := 65) dX1_add_64 rfl rfl ?_
  refine V.getI (q := 68) dX1_add_65 rfl kf_X1_49 (shT ht) (loT ht) rfl (show _ = nI n by simp [w2_rd, h8]) ?_
  refine V.iconst (q := 69) (v := nI 0) dX1_add_68 rfl (by decide +kernel) ?_
  refine V.iastN (q := 70) dX1_add_69 rfl (shTa ht 6 (by decide) (by decide)) (loTa ht 6 (by decide)) (by omega) (by decide) ?_
  refine V.aload_n (q := 71) dX1_add_70 rfl rfl ?_
  refine V.getR (q := 74) dX1_add_71 rfl kf_X1_30 (shT ht) (loT ht) rfl ?_
  refine V.aload_n (q := 75) dX1_add_74 rfl rfl ?_
  refine V.getI (q := 78) dX1_add_75 rfl kf_X1_49 (shT ht) (loT ht) rfl (show _ = nI n by simp [w2_rd, h8]) ?_
  refine V.iconst (q := 79) (v := nI 0) dX1_add_78 rfl (by decide +kernel) ?_
  refine V.iastN (q := 80) dX1_add_79 rfl (shTa ht 7 (by decide) (by decide)) (loTa ht 7 (by decide)) (by omega) (by decide) ?_
  refine V.aload_n (q := 81) dX1_add_80 rfl rfl ?_
  refine V.dup (q := 82) dX1_add_81 rfl rfl ?_
  refine V.getI (q := 85) dX1_add_82 rfl kf_X1_49 (shT ht) (loT ht) rfl (show _ = nI n by simp [w2_rd, h8]) ?_
  refine V.iconst (q := 86) (v := nI 1) dX1_add_85 rfl (by decide +kernel) ?_
  refine V.iaddN (q := 87) dX1_add_86 rfl ?_
  refine V.putI (q := 90) dX1_add_87 rfl kp_X1_49 (shT ht) (loT ht) rfl rfl rfl ?_
  exact V.ret_v hB dX1_add_90 ⟨rfl, rfl⟩

-- tell(a, b, c, d)
set_option maxHeartbeats 4000000 in
set_option maxRecDepth 100000 in
theorem c_tell {σ : Sg} {t n y z l : Nat} {τ : Nat → Nat → Nat} (ht : isT t) (hT : TA σ t n y z l τ) {a b c d : Nat} (ha : a ≤ 5) (hb : b ≤ 9) (hc : c ≤ 9) (hd : d ≤ 9) : Con 3 yX1_tell cX1_tell 6 (some .boolean) [.ref t, .int (nI a), .int (nI b), .int (nI c), .int (nI d)] σ (PI (fun r σ1 => (r = nI 0 ∧ σ1 = σ ∧ (n = 6 ∨ 3 < c ∨ 4 < d)) ∨ (r = nI 1 ∧ n < 6 ∧ c ≤ 3 ∧ d ≤ 4 ∧ TA σ1 t (n + 1) y z l (tellM n τ a b c d) ∧ Fr t σ σ1))) := by
  refine Con.of (by decide) (by simp [Value.category]) (Nat.le_of_ble_eq_true rfl) (fun x hB => ?_)
  show V x RX1 cX1_tell 6 0 [some (.ref t), some (.int (nI a)), some (.int (nI b)), some (.int (nI c)), some (.int (nI d)), none] [] _
  have hn6 := hT.n6
  have hyb := hT.yb
  refine V.aload_n (q := 1) dX1_tell_0 rfl rfl ?_
  refine V.cvi0 (q := 4) dX1_tell_1 rfl kc_X1_55 (shT ht) (loT ht) rfl (hB.rm (by decide)) (Nat.le_of_ble_eq_true rfl) (c_isFull0 ht hT.n6 hT.n8) (fun r1 τ1 hp1 => ?_)
  obtain ⟨hz, ⟨rfl, hs⟩ | ⟨rfl, hn⟩⟩ := hp1
  · rw [hz]
    refine V.ifN_ne (t := 18) (q := 7) dX1_tell_4 (by decide) rfl (by omega) (fun c4 => ?_) (fun c4 => absurd c4 (by decide +kernel))
    refine V.iconst (q := 19) (v := nI 0) dX1_tell_18 rfl (by decide +kernel) ?_
    exact V.ret_int hB dX1_tell_19 (by decide +kernel) ⟨_, rfl, Or.inl ⟨rfl, rfl, Or.inl hs⟩⟩
  · rw [hz]
    refine V.ifN_ne (t := 18) (q := 7) dX1_tell_4 (by decide) rfl (by omega) (fun c4 => absurd c4 (by decide +kernel)) (fun c4 => ?_)
    refine V.iload_n (q := 8) dX1_tell_7 rfl rfl ?_
    refine V.iconst (q := 9) (v := nI 3) dX1_tell_8 rfl (by decide +kernel) ?_
    refine V.icmpN_gt (t := 18) (q := 12) dX1_tell_9 (by decide) rfl (by omega) (by omega) (fun c9 => ?_) (fun c9 => ?_)
    · refine V.iconst (q := 19) (v := nI 0) dX1_tell_18 rfl (by decide +kernel) ?_
      exact V.ret_int hB dX1_tell_19 (by decide +kernel) ⟨_, rfl, Or.inl ⟨rfl, rfl, Or.inr (Or.inl c9)⟩⟩
    · refine V.iload (q := 14) dX1_tell_12 rfl rfl ?_
      refine V.iconst (q := 15) (v := nI 4) dX1_tell_14 rfl (by decide +kernel) ?_
      refine V.icmpN_le (t := 20) (q := 18) dX1_tell_15 (by decide) rfl (by omega) (by omega) (fun c15 => ?_) (fun c15 => ?_)
      · refine V.aload_n (q := 21) dX1_tell_20 rfl rfl ?_
        refine V.getI (q := 24) dX1_tell_21 rfl kf_X1_49 (shT ht) (loT ht) rfl (TA.n8 hT) ?_
        refine V.iconst (q := 25) (v := nI 1) dX1_tell_24 rfl (by decide +kernel) ?_
        rcases Nat.eq_zero_or_pos n with e0 | e0
        · have e9 : nI n - nI 1 = -1 := by subst e0; decide +kernel
          refine V.isub (q := 26) dX1_tell_25 rfl ?_
          rw [e9]
          refine V.ist5 (q := 28) dX1_tell_26 rfl ?_
          refine V.aload_n (q := 29) dX1_tell_28 rfl rfl ?_
          refine V.iload (q := 31) dX1_tell_29 rfl rfl ?_
          refine V.cvi1 (q := 34) dX1_tell_31 rfl kc_X1_59 (shT ht) (loT ht) rfl (hB.rm (by decide)) (Nat.le_of_ble_eq_true rfl) (c_isS0 ht hT.n6 hT.n8 (v := -1) (fun ⟨k, h1, _⟩ => by omega)) (fun r31 τ31 hp31 => ?_)
          obtain ⟨rfl, hz⟩ := hp31
          rw [hz]
          refine V.ifN_eq (t := 58) (q := 37) dX1_tell_34 (by decide) rfl (by omega) (fun c34 => ?_) (fun c34 => absurd c34 (by decide +kernel))
          refine V.aload_n (q := 59) dX1_tell_58 rfl rfl ?_
          refine V.iload_n (q := 60) dX1_tell_59 rfl rfl ?_
          refine V.iload_n (q := 61) dX1_tell_60 rfl rfl ?_
          refine V.iload_n (q := 62) dX1_tell_61 rfl rfl ?_
          refine V.iload (q := 64) dX1_tell_62 rfl rfl ?_
          refine V.cvv4 (q := 67) dX1_tell_64 rfl kc_X1_63 (shT ht) (loT ht) rfl (hB.rm (by decide)) (Nat.le_of_ble_eq_true rfl) (c_add ht hn6 hT.n8 hn (a := a) (b := b) (c := c) (d := d)) (fun τ64 hp64 => ?_)
          rw [hp64]
          refine V.iconst (q := 68) (v := nI 1) dX1_tell_67 rfl (by decide +kernel) ?_
          exact V.ret_int hB dX1_tell_68 (by decide +kernel) ⟨_, rfl, Or.inr ⟨rfl, hn, c9, c15, (hT.add hn ha hb c9 c15).cg (fun f _ i _ => by unfold tellM; rw [if_neg (by omega)]), addS_fr⟩⟩
        · have hl := (hT.w (n - 1) (by omega)).2.2.2.2.2.1
          have hn1 : n - 1 < n := by omega
          refine V.isubN (q := 26) dX1_tell_25 rfl (by omega) ?_
          refine V.ist5 (q := 28) dX1_tell_26 rfl ?_
          refine V.aload_n (q := 29) dX1_tell_28 rfl rfl ?_
          refine V.iload (q := 31) dX1_tell_29 rfl rfl ?_
          refine V.cvi1 (q := 34) dX1_tell_31 rfl kc_X1_59 (shT ht) (loT ht) rfl (hB.rm (by decide)) (Nat.le_of_ble_eq_true rfl) (c_isS1 ht hT hn1) (fun r31 τ31 hp31 => ?_)
          obtain ⟨rfl, hz⟩ := hp31
          rw [hz]
          refine V.ifN_eq (t := 58) (q := 37) dX1_tell_34 (by decide) rfl (by omega) (fun c34 => absurd c34 (by decide +kernel)) (fun c34 => ?_)
          refine V.aload_n (q := 38) dX1_tell_37 rfl rfl ?_
          refine V.getR (q := 41) dX1_tell_38 rfl kf_X1_27 (shT ht) (loT ht) rfl ?_
          refine V.iload (q := 43) dX1_tell_41 rfl rfl ?_
          refine V.ialdN (q := 44) dX1_tell_43 rfl (shTa ht 6 (by decide) (by decide)) (loTa ht 6 (by decide)) (by omega) (by decide) (TA.a hT 5 (by decide) (by omega)) ?_
          refine V.ifN_ne (t := 58) (q := 47) dX1_tell_44 (by decide) rfl (by omega) (fun c44 => ?_) (fun c44 => ?_)
          · refine V.aload_n (q := 59) dX1_tell_58 rfl rfl ?_
            refine V.iload_n (q := 60) dX1_tell_59 rfl rfl ?_
            refine V.iload_n (q := 61) dX1_tell_60 rfl rfl ?_
            refine V.iload_n (q := 62) dX1_tell_61 rfl rfl ?_
            refine V.iload (q := 64) dX1_tell_62 rfl rfl ?_
            refine V.cvv4 (q := 67) dX1_tell_64 rfl kc_X1_63 (shT ht) (loT ht) rfl (hB.rm (by decide)) (Nat.le_of_ble_eq_true rfl) (c_add ht hn6 hT.n8 hn (a := a) (b := b) (c := c) (d := d)) (fun τ64 hp64 => ?_)
            rw [hp64]
            refine V.iconst (q := 68) (v := nI 1) dX1_tell_67 rfl (by decide +kernel) ?_
            exact V.ret_int hB dX1_tell_68 (by decide +kernel) ⟨_, rfl, Or.inr ⟨rfl, hn, c9, c15, (hT.add hn ha hb c9 c15).cg (fun f _ i _ => by unfold tellM; rw [if_neg (fun h9 => c44 h9.2)]), addS_fr⟩⟩
          · refine V.aload_n (q := 48) dX1_tell_47 rfl rfl ?_
            refine V.getR (q := 51) dX1_tell_48 rfl kf_X1_27 (shT ht) (loT ht) rfl ?_
            refine V.iload (q := 53) dX1_tell_51 rfl rfl ?_
            refine V.aload_n (q := 54) dX1_tell_53 rfl rfl ?_
            refine V.getI (q := 57) dX1_tell_54 rfl kf_X1_49 (shT ht) (loT ht) rfl (TA.n8 hT) ?_
            refine V.iastN (q := 58) dX1_tell_57 rfl (shTa ht 6 (by decide) (by decide)) (loTa ht 6 (by decide)) (by omega) (by decide) ?_
            refine V.aload_n (q := 59) dX1_tell_58 rfl rfl ?_
            refine V.iload_n (q := 60) dX1_tell_59 rfl rfl ?_
            refine V.iload_n (q := 61) dX1_tell_60 rfl rfl ?_
            refine V.iload_n (q := 62) dX1_tell_61 rfl rfl ?_
            refine V.iload (q := 64) dX1_tell_62 rfl rfl ?_
            refine V.cvv4 (q := 67) dX1_tell_64 rfl kc_X1_63 (shT ht) (loT ht) rfl (hB.rm (by decide)) (Nat.le_of_ble_eq_true rfl) (c_add ht hn6 (show w2 σ (t + 6) (n - 1) (nI n) t 8 = nI n by rw [w2_ne (by omega)]; exact hT.n8) hn (a := a) (b := b) (c := c) (d := d)) (fun τ64 hp64 => ?_)
            rw [hp64, addS_lk (by omega)]
            refine V.iconst (q := 68) (v := nI 1) dX1_tell_67 rfl (by decide +kernel) ?_
            exact V.ret_int hB dX1_tell_68 (by decide +kernel) ⟨_, rfl, Or.inr ⟨rfl, hn, c9, c15, ((hT.add hn ha hb c9 c15).wr (f := 5) (k := n - 1) (v := n) (by decide) (by omega) (by unfold okF; omega)).cg (fun f _ i _ => by unfold tellM; rw [if_pos ⟨e0, c44⟩]), addS_fr.w (by omega) (by omega)⟩⟩
      · refine V.iconst (q := 19) (v := nI 0) dX1_tell_18 rfl (by decide +kernel) ?_
        exact V.ret_int hB dX1_tell_19 (by decide +kernel) ⟨_, rfl, Or.inl ⟨rfl, rfl, Or.inr (Or.inr c15)⟩⟩

-- tellWhoMends(a, b), tellPence(a, v)
set_option maxHeartbeats 4000000 in
set_option maxRecDepth 100000 in
theorem c_tellWho {σ : Sg} {t n y z l : Nat} {τ : Nat → Nat → Nat} (ht : isT t) (hT : TA σ t n y z l τ) {a b : Nat} (ha : a ≤ 9) (hb : b ≤ 9) : Con 2 yX1_tellWhoMends cX1_tellWhoMends 3 (some .boolean) [.ref t, .int (nI a), .int (nI b)] σ (PI (fun r σ1 => (r = nI 0 ∧ σ1 = σ ∧ ¬ (a < n ∧ b < n)) ∨ (r = nI 1 ∧ a < n ∧ b < n ∧ TA σ1 t n y z l (setF τ 5 (upN (τ 5) a b)) ∧ Fr t σ σ1))) := by
  refine Con.of (by decide) (by simp [Value.category]) (Nat.le_of_ble_eq_true rfl) (fun x hB => ?_)
  show V x RX1 cX1_tellWhoMends 3 0 [some (.ref t), some (.int (nI a)), some (.int (nI b))] [] _
  have hn6 := hT.n6
  have hyb := hT.yb
  refine V.aload_n (q := 1) dX1_tellWhoMends_0 rfl rfl ?_
  refine V.iload_n (q := 2) dX1_tellWhoMends_1 rfl rfl ?_
  refine V.cvi1 (q := 5) dX1_tellWhoMends_2 rfl kc_X1_59 (shT ht) (loT ht) rfl (hB.rm (by decide)) (Nat.le_of_ble_eq_true rfl) (c_isStreet ht hT (nI a)) (fun r2 τ2 hp2 => ?_)
  obtain ⟨hz, ⟨rfl, hs⟩ | ⟨rfl, hs⟩⟩ := hp2
  · rw [hz]
    have ha1 := (sN_nI hn6 (by omega)).mp hs
    refine V.ifN_eq (t := 16) (q := 8) dX1_tellWhoMends_5 (by decide) rfl (by omega) (fun c5 => absurd c5 (by decide +kernel)) (fun c5 => ?_)
    refine V.aload_n (q := 9) dX1_tellWhoMends_8 rfl rfl ?_
    refine V.iload_n (q := 10) dX1_tellWhoMends_9 rfl rfl ?_
    refine V.cvi1 (q := 13) dX1_tellWhoMends_10 rfl kc_X1_59 (shT ht) (loT ht) rfl (hB.rm (by decide)) (Nat.le_of_ble_eq_true rfl) (c_isStreet ht hT (nI b)) (fun r10 τ10 hp10 => ?_)
    obtain ⟨hz, ⟨rfl, hs⟩ | ⟨rfl, hs⟩⟩ := hp10
    · rw [hz]
      have hb1 := (sN_nI hn6 (by omega)).mp hs
      refine V.ifN_ne (t := 18) (q := 16) dX1_tellWhoMends_13 (by decide) rfl (by omega) (fun c13 => ?_) (fun c13 => absurd c13 (by decide +kernel))
      refine V.aload_n (q := 19) dX1_tellWhoMends_18 rfl rfl ?_
      refine V.getR (q := 22) dX1_tellWhoMends_19 rfl kf_X1_27 (shT ht) (loT ht) rfl ?_
      refine V.iload_n (q := 23) dX1_tellWhoMends_22 rfl rfl ?_
      refine V.iload_n (q := 24) dX1_tellWhoMends_23 rfl rfl ?_
      refine V.iastN (q := 25) dX1_tellWhoMends_24 rfl (shTa ht 6 (by decide) (by decide)) (loTa ht 6 (by decide)) (by omega) (by decide) ?_
      refine V.iconst (q := 26) (v := nI 1) dX1_tellWhoMends_25 rfl (by decide +kernel) ?_
      exact V.ret_int hB dX1_tellWhoMends_26 (by decide +kernel) ⟨_, rfl, Or.inr ⟨rfl, ha1, hb1, hT.wr (f := 5) (by decide) ha1 (by unfold okF; omega), Fr.rf.w (by omega) (by omega)⟩⟩
    · rw [hz]
      have hb1 : ¬ b < n := fun h9 => hs ((sN_nI hn6 (by omega)).mpr h9)
      refine V.ifN_ne (t := 18) (q := 16) dX1_tellWhoMends_13 (by decide) rfl (by omega) (fun c13 => absurd c13 (by decide +kernel)) (fun c13 => ?_)
      refine V.iconst (q := 17) (v := nI 0) dX1_tellWhoMends_16 rfl (by decide +kernel) ?_
      exact V.ret_int hB dX1_tellWhoMends_17 (by decide +kernel) ⟨_, rfl, Or.inl ⟨rfl, rfl, by omega⟩⟩
  · rw [hz]
    have ha1 : ¬ a < n := fun h9 => hs ((sN_nI hn6 (by omega)).mpr h9)
    refine V.ifN_eq (t := 16) (q := 8) dX1_tellWhoMends_5 (by decide) rfl (by omega) (fun c5 => ?_) (fun c5 => absurd c5 (by decide +kernel))
    refine V.iconst (q := 17) (v := nI 0) dX1_tellWhoMends_16 rfl (by decide +kernel) ?_
    exact V.ret_int hB dX1_tellWhoMends_17 (by decide +kernel) ⟨_, rfl, Or.inl ⟨rfl, rfl, by omega⟩⟩

set_option maxHeartbeats 4000000 in
set_option maxRecDepth 100000 in
theorem c_tellPence {σ : Sg} {t n y z l : Nat} {τ : Nat → Nat → Nat} (ht : isT t) (hT : TA σ t n y z l τ) {a v : Nat} (ha : a ≤ 9) (hv : v ≤ 99) : Con 2 yX1_tellPence cX1_tellPence 3 (some .boolean) [.ref t, .int (nI a), .int (nI v)] σ (PI (fun r σ1 => (r = nI 0 ∧ σ1 = σ ∧ ¬ a < n) ∨ (r = nI 1 ∧ a < n ∧ TA σ1 t n y z l (setF τ 4 (upN (τ 4) a v)) ∧ Fr t σ σ1))) := by
  refine Con.of (by decide) (by simp [Value.category]) (Nat.le_of_ble_eq_true rfl) (fun x hB => ?_)
  show V x RX1 cX1_tellPence 3 0 [some (.ref t), some (.int (nI a)), some (.int (nI v))] [] _
  have hn6 := hT.n6
  have hyb := hT.yb
  refine V.aload_n (q := 1) dX1_tellPence_0 rfl rfl ?_
  refine V.iload_n (q := 2) dX1_tellPence_1 rfl rfl ?_
  refine V.cvi1 (q := 5) dX1_tellPence_2 rfl kc_X1_59 (shT ht) (loT ht) rfl (hB.rm (by decide)) (Nat.le_of_ble_eq_true rfl) (c_isStreet ht hT (nI a)) (fun r2 τ2 hp2 => ?_)
  obtain ⟨hz, ⟨rfl, hs⟩ | ⟨rfl, hs⟩⟩ := hp2
  · rw [hz]
    have ha1 := (sN_nI hn6 (by omega)).mp hs
    refine V.ifN_ne (t := 10) (q := 8) dX1_tellPence_5 (by decide) rfl (by omega) (fun c5 => ?_) (fun c5 => absurd c5 (by decide +kernel))
    refine V.aload_n (q := 11) dX1_tellPence_10 rfl rfl ?_
    refine V.getR (q := 14) dX1_tellPence_11 rfl kf_X1_24 (shT ht) (loT ht) rfl ?_
    refine V.iload_n (q := 15) dX1_tellPence_14 rfl rfl ?_
    refine V.iload_n (q := 16) dX1_tellPence_15 rfl rfl ?_
    refine V.iastN (q := 17) dX1_tellPence_16 rfl (shTa ht 5 (by decide) (by decide)) (loTa ht 5 (by decide)) (by omega) (by decide) ?_
    refine V.iconst (q := 18) (v := nI 1) dX1_tellPence_17 rfl (by decide +kernel) ?_
    exact V.ret_int hB dX1_tellPence_18 (by decide +kernel) ⟨_, rfl, Or.inr ⟨rfl, ha1, hT.wr (f := 4) (by decide) ha1 (by unfold okF; omega), Fr.rf.w (by omega) (by omega)⟩⟩
  · rw [hz]
    have ha1 : ¬ a < n := fun h9 => hs ((sN_nI hn6 (by omega)).mpr h9)
    refine V.ifN_ne (t := 10) (q := 8) dX1_tellPence_5 (by decide) rfl (by omega) (fun c5 => absurd c5 (by decide +kernel)) (fun c5 => ?_)
    refine V.iconst (q := 9) (v := nI 0) dX1_tellPence_8 rfl (by decide +kernel) ?_
    exact V.ret_int hB dX1_tellPence_9 (by decide +kernel) ⟨_, rfl, Or.inl ⟨rfl, rfl, ha1⟩⟩

-- putBehind(k, d)
set_option maxHeartbeats 4000000 in
set_option maxRecDepth 100000 in
theorem c_putBehind {σ : Sg} {t n y z l : Nat} {τ : Nat → Nat → Nat} (ht : isT t) (hT : TA σ t n y z l τ) {k d : Nat} (hk : k < n) (hn : n < 6) (hd : d ≤ 4) : Con 3 yX1_putBehind cX1_putBehind 4 none [.ref t, .int (nI k), .int (nI d)] σ (PV (fun σ1 => TA σ1 t (n + 1) y z l (putM n τ k d) ∧ Fr t σ σ1)) := by
  refine Con.of (by decide) (by simp [Value.category]) (Nat.le_of_ble_eq_true rfl) (fun x hB => ?_)
  show V x RX1 cX1_putBehind 4 0 [some (.ref t), some (.int (nI k)), some (.int (nI d)), none] [] _
  have hn6 := hT.n6
  have hyb := hT.yb
  refine V.aload_n (q := 1) dX1_putBehind_0 rfl rfl ?_
  refine V.cvi0 (q := 4) dX1_putBehind_1 rfl kc_X1_55 (shT ht) (loT ht) rfl (hB.rm (by decide)) (Nat.le_of_ble_eq_true rfl) (c_isF0 ht hT.n6 hT.n8 hn) (fun r1 τ1 hp1 => ?_)
  obtain ⟨rfl, hz⟩ := hp1
  rw [hz]
  refine V.ifN_ne (t := 15) (q := 7) dX1_putBehind_4 (by decide) rfl (by omega) (fun c4 => absurd c4 (by decide +kernel)) (fun c4 => ?_)
  refine V.aload_n (q := 8) dX1_putBehind_7 rfl rfl ?_
  refine V.iload_n (q := 9) dX1_putBehind_8 rfl rfl ?_
  refine V.cvi1 (q := 12) dX1_putBehind_9 rfl kc_X1_59 (shT ht) (loT ht) rfl (hB.rm (by decide)) (Nat.le_of_ble_eq_true rfl) (c_isS1 ht hT hk) (fun r9 τ9 hp9 => ?_)
  obtain ⟨rfl, hz⟩ := hp9
  rw [hz]
  refine V.ifN_ne (t := 16) (q := 15) dX1_putBehind_12 (by decide) rfl (by omega) (fun c12 => ?_) (fun c12 => absurd c12 (by decide +kernel))
  refine V.aload_n (q := 17) dX1_putBehind_16 rfl rfl ?_
  refine V.getI (q := 20) dX1_putBehind_17 rfl kf_X1_49 (shT ht) (loT ht) rfl (TA.n8 hT) ?_
  refine V.ist3 (q := 21) dX1_putBehind_20 rfl ?_
  refine V.aload_n (q := 22) dX1_putBehind_21 rfl rfl ?_
  refine V.iconst (q := 23) (v := nI 0) dX1_putBehind_22 rfl (by decide +kernel) ?_
  refine V.iconst (q := 24) (v := nI 0) dX1_putBehind_23 rfl (by decide +kernel) ?_
  refine V.iconst (q := 25) (v := nI 0) dX1_putBehind_24 rfl (by decide +kernel) ?_
  refine V.iload_n (q := 26) dX1_putBehind_25 rfl rfl ?_
  refine V.cvv4 (q := 29) dX1_putBehind_26 rfl kc_X1_63 (shT ht) (loT ht) rfl (hB.rm (by decide)) (Nat.le_of_ble_eq_true rfl) (c_add ht hn6 hT.n8 hn (a := 0) (b := 0) (c := 0) (d := d)) (fun τ26 hp26 => ?_)
  rw [hp26]
  have hT1 := hT.add (a := 0) (b := 0) (c := 0) hn (by decide) (by decide) (by decide) hd
  have hkn : k < n + 1 := by omega
  have hnn : n < n + 1 := by omega
  have hme := (hT.w k hk).2.2.2.2.2.1
  have ek : addM n τ 0 0 0 d 5 k = τ 5 k := by unfold addM; rw [if_neg (by omega)]
  refine V.aload_n (q := 30) dX1_putBehind_29 rfl rfl ?_
  refine V.getR (q := 33) dX1_putBehind_30 rfl kf_X1_24 (shT ht) (loT ht) rfl ?_
  refine V.iload_n (q := 34) dX1_putBehind_33 rfl rfl ?_
  refine V.iconst (q := 35) (v := nI 0) dX1_putBehind_34 rfl (by decide +kernel) ?_
  refine V.iastN (q := 36) dX1_putBehind_35 rfl (shTa ht 5 (by decide) (by decide)) (loTa ht 5 (by decide)) (by omega) (by decide) ?_
  have hT2 := hT1.wr (f := 4) (v := 0) (by decide) hnn (by unfold okF; omega)
  refine V.aload_n (q := 37) dX1_putBehind_36 rfl rfl ?_
  refine V.getR (q := 40) dX1_putBehind_37 rfl kf_X1_27 (shT ht) (loT ht) rfl ?_
  refine V.iload_n (q := 41) dX1_putBehind_40 rfl rfl ?_
  refine V.aload_n (q := 42) dX1_putBehind_41 rfl rfl ?_
  refine V.getR (q := 45) dX1_putBehind_42 rfl kf_X1_27 (shT ht) (loT ht) rfl ?_
  refine V.iload_n (q := 46) dX1_putBehind_45 rfl rfl ?_
  refine V.ialdN (q := 47) dX1_putBehind_46 rfl (shTa ht 6 (by decide) (by decide)) (loTa ht 6 (by decide)) (by omega) (by decide) (show _ = nI (addM n τ 0 0 0 d 5 k) from TA.a hT2 5 (by decide) hkn) ?_
  refine V.iastN (q := 48) dX1_putBehind_47 rfl (shTa ht 6 (by decide) (by decide)) (loTa ht 6 (by decide)) (by omega) (by decide) ?_
  have hT3 := hT2.wr (f := 5) (v := addM n τ 0 0 0 d 5 k) (by decide) hnn (by unfold okF; omega)
  refine V.aload_n (q := 49) dX1_putBehind_48 rfl rfl ?_
  refine V.getR (q := 52) dX1_putBehind_49 rfl kf_X1_27 (shT ht) (loT ht) rfl ?_
  refine V.iload_n (q := 53) dX1_putBehind_52 rfl rfl ?_
  refine V.iload_n (q := 54) dX1_putBehind_53 rfl rfl ?_
  refine V.iastN (q := 55) dX1_putBehind_54 rfl (shTa ht 6 (by decide) (by decide)) (loTa ht 6 (by decide)) (by omega) (by decide) ?_
  have hT4 := hT3.wr (f := 5) (v := n) (by decide) hkn (by unfold okF; omega)
  exact V.ret_v hB dX1_putBehind_55 ⟨rfl, ⟨hT4.cg (fun f hf i hi => by
      unfold putM setF upN
      by_cases hi9 : i = n
      · have hf2 : f = 0 ∨ f = 1 ∨ f = 2 ∨ f = 3 ∨ f = 4 ∨ f = 5 ∨ f = 6 := by omega
        rcases hf2 with rfl | rfl | rfl | rfl | rfl | rfl | rfl <;> simp [hi9, addM, adV, show ¬ n = k by omega, show ¬ k = n by omega]
      · have hf2 : f = 0 ∨ f = 1 ∨ f = 2 ∨ f = 3 ∨ f = 4 ∨ f = 5 ∨ f = 6 := by omega
        rcases hf2 with rfl | rfl | rfl | rfl | rfl | rfl | rfl <;> simp [hi9, addM]), ((addS_fr.w (by omega) (by omega)).w (by omega) (by omega)).w (by omega) (by omega)⟩⟩

-- copyFrom(u)
set_option maxHeartbeats 4000000 in
set_option maxRecDepth 100000 in
theorem c_copyFrom {σ : Sg} {t u n y z l : Nat} {τ : Nat → Nat → Nat} (ht : isT t) (hu : isT u) (htu : t ≠ u) (hT : TA σ u n y z l τ) : Con 1 yX1_copyFrom cX1_copyFrom 2 none [.ref t, .ref u] σ (PV (fun σ1 => TA σ1 t n y z l τ ∧ Fr t σ σ1)) := by
  refine Con.of (by decide) (by simp [Value.category]) (Nat.le_of_ble_eq_true rfl) (fun x hB => ?_)
  show V x RX1 cX1_copyFrom 2 0 [some (.ref t), some (.ref u)] [] _
  have hn6 := hT.n6
  have hyb := hT.yb
  have hap := isT_apart ht hu htu
  have hc0 : cpd σ σ t u 0 := cpd0
  refine V.aload_n (q := 1) dX1_copyFrom_0 rfl rfl ?_
  refine V.getR (q := 4) dX1_copyFrom_1 rfl kf_X1_9 (shT hu) (loT hu) rfl ?_
  refine V.iconst (q := 5) (v := nI 0) dX1_copyFrom_4 rfl (by decide +kernel) ?_
  refine V.aload_n (q := 6) dX1_copyFrom_5 rfl rfl ?_
  refine V.getR (q := 9) dX1_copyFrom_6 rfl kf_X1_9 (shT ht) (loT ht) rfl ?_
  refine V.iconst (q := 10) (v := nI 0) dX1_copyFrom_9 rfl (by decide +kernel) ?_
  refine V.bipush (q := 12) (v := nI 6) dX1_copyFrom_10 rfl (by decide +kernel) ?_
  refine V.copy6 (q := 15) dX1_copyFrom_12 rfl kc_X1_43 (hB.rm (by decide)) (Nat.le_of_ble_eq_true rfl) (shTa hu 1 (by decide) (by decide)) (loTa hu 1 (by decide)) (shTa ht 1 (by decide) (by decide)) (loTa ht 1 (by decide)) ?_
  refine V.nm (fun σ1 e1 => ?_)
  have hc1 := cpd_s 0 hap (by decide) hc0 e1
  refine V.aload_n (q := 16) dX1_copyFrom_15 rfl rfl ?_
  refine V.getR (q := 19) dX1_copyFrom_16 rfl kf_X1_15 (shT hu) (loT hu) rfl ?_
  refine V.iconst (q := 20) (v := nI 0) dX1_copyFrom_19 rfl (by decide +kernel) ?_
  refine V.aload_n (q := 21) dX1_copyFrom_20 rfl rfl ?_
  refine V.getR (q := 24) dX1_copyFrom_21 rfl kf_X1_15 (shT ht) (loT ht) rfl ?_
  refine V.iconst (q := 25) (v := nI 0) dX1_copyFrom_24 rfl (by decide +kernel) ?_
  refine V.bipush (q := 27) (v := nI 6) dX1_copyFrom_25 rfl (by decide +kernel) ?_
  refine V.copy6 (q := 30) dX1_copyFrom_27 rfl kc_X1_43 (hB.rm (by decide)) (Nat.le_of_ble_eq_true rfl) (shTa hu 2 (by decide) (by decide)) (loTa hu 2 (by decide)) (shTa ht 2 (by decide) (by decide)) (loTa ht 2 (by decide)) ?_
  refine V.nm (fun σ2 e2 => ?_)
  have hc2 := cpd_s 1 hap (by decide) hc1 e2
  refine V.aload_n (q := 31) dX1_copyFrom_30 rfl rfl ?_
  refine V.getR (q := 34) dX1_copyFrom_31 rfl kf_X1_18 (shT hu) (loT hu) rfl ?_
  refine V.iconst (q := 35) (v := nI 0) dX1_copyFrom_34 rfl (by decide +kernel) ?_
  refine V.aload_n (q := 36) dX1_copyFrom_35 rfl rfl ?_
  refine V.getR (q := 39) dX1_copyFrom_36 rfl kf_X1_18 (shT ht) (loT ht) rfl ?_
  refine V.iconst (q := 40) (v := nI 0) dX1_copyFrom_39 rfl (by decide +kernel) ?_
  refine V.bipush (q := 42) (v := nI 6) dX1_copyFrom_40 rfl (by decide +kernel) ?_
  refine V.copy6 (q := 45) dX1_copyFrom_42 rfl kc_X1_43 (hB.rm (by decide)) (Nat.le_of_ble_eq_true rfl) (shTa hu 3 (by decide) (by decide)) (loTa hu 3 (by decide)) (shTa ht 3 (by decide) (by decide)) (loTa ht 3 (by decide)) ?_
  refine V.nm (fun σ3 e3 => ?_)
  have hc3 := cpd_s 2 hap (by decide) hc2 e3
  refine V.aload_n (q := 46) dX1_copyFrom_45 rfl rfl ?_
  refine V.getR (q := 49) dX1_copyFrom_46 rfl kf_X1_21 (shT hu) (loT hu) rfl ?_
  refine V.iconst (q := 50) (v := nI 0) dX1_copyFrom_49 rfl (by decide +kernel) ?_
  refine V.aload_n (q := 51) dX1_copyFrom_50 rfl rfl ?_
  refine V.getR (q := 54) dX1_copyFrom_51 rfl kf_X1_21 (shT ht) (loT ht) rfl ?_
  refine V.iconst (q := 55) (v := nI 0) dX1_copyFrom_54 rfl (by decide +kernel) ?_
  refine V.bipush (q := 57) (v := nI 6) dX1_copyFrom_55 rfl (by decide +kernel) ?_
  refine V.copy6 (q := 60) dX1_copyFrom_57 rfl kc_X1_43 (hB.rm (by decide)) (Nat.le_of_ble_eq_true rfl) (shTa hu 4 (by decide) (by decide)) (loTa hu 4 (by decide)) (shTa ht 4 (by decide) (by decide)) (loTa ht 4 (by decide)) ?_
  refine V.nm (fun σ4 e4 => ?_)
  have hc4 := cpd_s 3 hap (by decide) hc3 e4
  refine V.aload_n (q := 61) dX1_copyFrom_60 rfl rfl ?_
  refine V.getR (q := 64) dX1_copyFrom_61 rfl kf_X1_24 (shT hu) (loT hu) rfl ?_
  refine V.iconst (q := 65) (v := nI 0) dX1_copyFrom_64 rfl (by decide +kernel) ?_
  refine V.aload_n (q := 66) dX1_copyFrom_65 rfl rfl ?_
  refine V.getR (q := 69) dX1_copyFrom_66 rfl kf_X1_24 (shT ht) (loT ht) rfl ?_
  refine V.iconst (q := 70) (v := nI 0) dX1_copyFrom_69 rfl (by decide +kernel) ?_
  refine V.bipush (q := 72) (v := nI 6) dX1_copyFrom_70 rfl (by decide +kernel) ?_
  refine V.copy6 (q := 75) dX1_copyFrom_72 rfl kc_X1_43 (hB.rm (by decide)) (Nat.le_of_ble_eq_true rfl) (shTa hu 5 (by decide) (by decide)) (loTa hu 5 (by decide)) (shTa ht 5 (by decide) (by decide)) (loTa ht 5 (by decide)) ?_
  refine V.nm (fun σ5 e5 => ?_)
  have hc5 := cpd_s 4 hap (by decide) hc4 e5
  refine V.aload_n (q := 76) dX1_copyFrom_75 rfl rfl ?_
  refine V.getR (q := 79) dX1_copyFrom_76 rfl kf_X1_27 (shT hu) (loT hu) rfl ?_
  refine V.iconst (q := 80) (v := nI 0) dX1_copyFrom_79 rfl (by decide +kernel) ?_
  refine V.aload_n (q := 81) dX1_copyFrom_80 rfl rfl ?_
  refine V.getR (q := 84) dX1_copyFrom_81 rfl kf_X1_27 (shT ht) (loT ht) rfl ?_
  refine V.iconst (q := 85) (v := nI 0) dX1_copyFrom_84 rfl (by decide +kernel) ?_
  refine V.bipush (q := 87) (v := nI 6) dX1_copyFrom_85 rfl (by decide +kernel) ?_
  refine V.copy6 (q := 90) dX1_copyFrom_87 rfl kc_X1_43 (hB.rm (by decide)) (Nat.le_of_ble_eq_true rfl) (shTa hu 6 (by decide) (by decide)) (loTa hu 6 (by decide)) (shTa ht 6 (by decide) (by decide)) (loTa ht 6 (by decide)) ?_
  refine V.nm (fun σ6 e6 => ?_)
  have hc6 := cpd_s 5 hap (by decide) hc5 e6
  refine V.aload_n (q := 91) dX1_copyFrom_90 rfl rfl ?_
  refine V.getR (q := 94) dX1_copyFrom_91 rfl kf_X1_30 (shT hu) (loT hu) rfl ?_
  refine V.iconst (q := 95) (v := nI 0) dX1_copyFrom_94 rfl (by decide +kernel) ?_
  refine V.aload_n (q := 96) dX1_copyFrom_95 rfl rfl ?_
  refine V.getR (q := 99) dX1_copyFrom_96 rfl kf_X1_30 (shT ht) (loT ht) rfl ?_
  refine V.iconst (q := 100) (v := nI 0) dX1_copyFrom_99 rfl (by decide +kernel) ?_
  refine V.bipush (q := 102) (v := nI 6) dX1_copyFrom_100 rfl (by decide +kernel) ?_
  refine V.copy6 (q := 105) dX1_copyFrom_102 rfl kc_X1_43 (hB.rm (by decide)) (Nat.le_of_ble_eq_true rfl) (shTa hu 7 (by decide) (by decide)) (loTa hu 7 (by decide)) (shTa ht 7 (by decide) (by decide)) (loTa ht 7 (by decide)) ?_
  refine V.nm (fun σ7 e7 => ?_)
  have hc7 := cpd_s 6 hap (by decide) hc6 e7
  have hU7 : TA σ7 u n y z l τ := hT.fr (fun o h1 h2 => hc7.1 o (by omega))
  refine V.aload_n (q := 106) dX1_copyFrom_105 rfl rfl ?_
  refine V.aload_n (q := 107) dX1_copyFrom_106 rfl rfl ?_
  refine V.getI (q := 110) dX1_copyFrom_107 rfl kf_X1_49 (shT hu) (loT hu) rfl (TA.n8 hU7) ?_
  refine V.putI (q := 113) dX1_copyFrom_110 rfl kp_X1_49 (shT ht) (loT ht) rfl rfl rfl ?_
  have hU8 := hU7.wo (o := t) (k := 8) (x := nI n) (fun h9 => by omega)
  refine V.aload_n (q := 114) dX1_copyFrom_113 rfl rfl ?_
  refine V.aload_n (q := 115) dX1_copyFrom_114 rfl rfl ?_
  refine V.getI (q := 118) dX1_copyFrom_115 rfl kf_X1_52 (shT hu) (loT hu) rfl (TA.n9 hU8) ?_
  refine V.putI (q := 121) dX1_copyFrom_118 rfl kp_X1_52 (shT ht) (loT ht) rfl rfl rfl ?_
  have hU9 := hU8.wo (o := t) (k := 9) (x := nI y) (fun h9 => by omega)
  refine V.aload_n (q := 122) dX1_copyFrom_121 rfl rfl ?_
  refine V.aload_n (q := 123) dX1_copyFrom_122 rfl rfl ?_
  refine V.getI (q := 126) dX1_copyFrom_123 rfl kf_X1_36 (shT hu) (loT hu) rfl (TA.n10 hU9) ?_
  refine V.putI (q := 129) dX1_copyFrom_126 rfl kp_X1_36 (shT ht) (loT ht) rfl rfl rfl ?_
  have hU10 := hU9.wo (o := t) (k := 10) (x := nz z) (fun h9 => by omega)
  refine V.aload_n (q := 130) dX1_copyFrom_129 rfl rfl ?_
  refine V.aload_n (q := 131) dX1_copyFrom_130 rfl rfl ?_
  refine V.getI (q := 134) dX1_copyFrom_131 rfl kf_X1_40 (shT hu) (loT hu) rfl (TA.n11 hU10) ?_
  refine V.putI (q := 137) dX1_copyFrom_134 rfl kp_X1_40 (shT ht) (loT ht) rfl rfl rfl ?_
  exact V.ret_v hB dX1_copyFrom_137 ⟨rfl, ⟨⟨hT.n6, hT.yb, by simp [w2_rd], by simp [w2_rd], by simp [w2_rd], by simp [w2_rd], fun f hf i hi => by
      rw [← hT.a f hf hi, w2_ne (by omega), w2_ne (by omega), w2_ne (by omega), w2_ne (by omega)]
      exact hc7.2 f hf i (by omega), hT.w⟩, fun o ho => by
      rw [w2_ne (by omega), w2_ne (by omega), w2_ne (by omega), w2_ne (by omega)]
      exact hc7.1 o ho⟩⟩

