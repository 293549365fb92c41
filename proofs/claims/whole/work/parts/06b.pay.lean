-- pay(k)
set_option maxHeartbeats 4000000 in
set_option maxRecDepth 100000 in
theorem c_pay {σ : Sg} {t n y z l : Nat} {τ : Nat → Nat → Nat} (ht : isT t) (hT : TA σ t n y z l τ) {k : Nat} (hk : k < n) (hp : 1 ≤ τ 4 k) : Con 1 yX1_pay cX1_pay 3 none [.ref t, .int (nI k)] σ (PV (fun σ1 => TA σ1 t n y z l (setF τ 4 (payOne n l (τ 5) (τ 4) k)) ∧ Fr t σ σ1)) := by
  refine Con.of (by decide) (by simp [Value.category]) (Nat.le_of_ble_eq_true rfl) (fun x hB => ?_)
  show V x RX1 cX1_pay 3 0 [some (.ref t), some (.int (nI k)), none] [] _
  have hn6 := hT.n6
  have hyb := hT.yb
  refine V.iconst (q := 1) (v := nI 0) dX1_pay_0 rfl (by decide +kernel) ?_
  refine V.ist2 (q := 2) dX1_pay_1 rfl ?_
  have loop : ∀ j, j ≤ n → fstM (τ 5) l k j = none → V x RX1 cX1_pay 3 2 [some (.ref t), some (.int (nI k)), some (.int (nI j))] [] σ := by
    refine down n (fun j hj ih hno => ?_)
    refine V.iload_n (q := 3) dX1_pay_2 rfl rfl ?_
    refine V.aload_n (q := 4) dX1_pay_3 rfl rfl ?_
    refine V.getI (q := 7) dX1_pay_4 rfl kf_X1_49 (shT ht) (loT ht) rfl (TA.n8 hT) ?_
    refine V.icmpN_ge (t := 64) (q := 10) dX1_pay_7 (by decide) rfl (by omega) (by omega) (fun c7 => ?_) (fun c7 => ?_)
    · have ej : j = n := by omega
      subst ej
      exact V.ret_v hB dX1_pay_64 ⟨rfl, ⟨hT.cg (fun f hf i hi => by
      by_cases h4 : f = 4
      · subst h4
        show τ 4 i = payOne _ l (τ 5) (τ 4) k i
        unfold payOne; rw [hno]
      · rw [setF_ne h4]), Fr.rf⟩⟩
    · have hw := hT.w j c7
      have hw2 := hT.w k hk
      refine V.aload_n (q := 11) dX1_pay_10 rfl rfl ?_
      refine V.getR (q := 14) dX1_pay_11 rfl kf_X1_27 (shT ht) (loT ht) rfl ?_
      refine V.iload_n (q := 15) dX1_pay_14 rfl rfl ?_
      refine V.ialdN (q := 16) dX1_pay_15 rfl (shTa ht 6 (by decide) (by decide)) (loTa ht 6 (by decide)) (by omega) (by decide) (TA.a hT 5 (by decide) (by omega)) ?_
      refine V.iload_n (q := 17) dX1_pay_16 rfl rfl ?_
      refine V.icmpN_ne (t := 58) (q := 20) dX1_pay_17 (by decide) rfl (by omega) (by omega) (fun c17 => ?_) (fun c17 => ?_)
      · refine V.inc2 (q := 61) dX1_pay_58 rfl (inc1 _) ?_
        refine V.goto (q := 2) dX1_pay_61 (by decide) ?_
        exact ih c7 (by unfold fstM; rw [hno]; simp [c17])
      · refine V.iload_n (q := 21) dX1_pay_20 rfl rfl ?_
        refine V.aload_n (q := 22) dX1_pay_21 rfl rfl ?_
        refine V.getI (q := 25) dX1_pay_22 rfl kf_X1_40 (shT ht) (loT ht) rfl (TA.n11 hT) ?_
        refine V.icmp_eq (t := 58) (q := 28) dX1_pay_25 (by decide) rfl  (fun c25 => ?_) (fun c25 => ?_)
        · refine V.inc2 (q := 61) dX1_pay_58 rfl (inc1 _) ?_
          refine V.goto (q := 2) dX1_pay_61 (by decide) ?_
          exact ih c7 (by unfold fstM; rw [hno]; simp [(nz_eq (show j < 6 by omega)).mp c25])
        · have hjl : j ≠ l := fun e9 => c25 ((nz_eq (by omega)).mpr e9)
          have hf1 : fstM (τ 5) l k (j + 1) = some j := by unfold fstM; rw [hno]; simp [c17, hjl]
          have hf2 := fstM_up hf1 (show j + 1 ≤ n by omega)
          refine V.aload_n (q := 29) dX1_pay_28 rfl rfl ?_
          refine V.getR (q := 32) dX1_pay_29 rfl kf_X1_24 (shT ht) (loT ht) rfl ?_
          refine V.iload_n (q := 33) dX1_pay_32 rfl rfl ?_
          refine V.dup2 (q := 34) dX1_pay_33 rfl rfl rfl ?_
          refine V.ialdN (q := 35) dX1_pay_34 rfl (shTa ht 5 (by decide) (by decide)) (loTa ht 5 (by decide)) (by omega) (by decide) (TA.a hT 4 (by decide) (by omega)) ?_
          refine V.iconst (q := 36) (v := nI 1) dX1_pay_35 rfl (by decide +kernel) ?_
          refine V.isubN (q := 37) dX1_pay_36 rfl (by omega) ?_
          refine V.iastN (q := 38) dX1_pay_37 rfl (shTa ht 5 (by decide) (by decide)) (loTa ht 5 (by decide)) (by omega) (by decide) ?_
          have hT1 := hT.wr (f := 4) (v := τ 4 k - 1) (by decide) hk (by unfold okF; omega)
          have e41 : ∀ i, setF τ 4 (upN (τ 4) k (τ 4 k - 1)) 4 i = upN (τ 4) k (τ 4 k - 1) i := fun i => rfl
          refine V.aload_n (q := 39) dX1_pay_38 rfl rfl ?_
          refine V.getR (q := 42) dX1_pay_39 rfl kf_X1_24 (shT ht) (loT ht) rfl ?_
          refine V.iload_n (q := 43) dX1_pay_42 rfl rfl ?_
          refine V.bipush (q := 45) (v := nI 99) dX1_pay_43 rfl (by decide +kernel) ?_
          refine V.aload_n (q := 46) dX1_pay_45 rfl rfl ?_
          refine V.getR (q := 49) dX1_pay_46 rfl kf_X1_24 (shT ht) (loT ht) rfl ?_
          refine V.iload_n (q := 50) dX1_pay_49 rfl rfl ?_
          refine V.ialdN (q := 51) dX1_pay_50 rfl (shTa ht 5 (by decide) (by decide)) (loTa ht 5 (by decide)) (by omega) (by decide) (TA.a hT1 4 (by decide) (by omega)) ?_
          refine V.iconst (q := 52) (v := nI 1) dX1_pay_51 rfl (by decide +kernel) ?_
          refine V.iaddN (q := 53) dX1_pay_52 rfl ?_
          refine V.min (q := 56) dX1_pay_53 rfl kc_X1_78 (hB.rm (by decide)) (Nat.le_of_ble_eq_true rfl) (minN (by omega) (by have := (hT1.w j c7).2.2.2.2.1; omega)) ?_
          refine V.iastN (q := 57) dX1_pay_56 rfl (shTa ht 5 (by decide) (by decide)) (loTa ht 5 (by decide)) (by omega) (by decide) ?_
          have hT2 := hT1.wr (f := 4) (v := min 99 (setF τ 4 (upN (τ 4) k (τ 4 k - 1)) 4 j + 1)) (by decide) c7 (by unfold okF; omega)
          exact V.ret_v hB dX1_pay_57 ⟨rfl, ⟨hT2.cg (fun f hf i hi => by
      by_cases h4 : f = 4
      · subst h4
        show upN (upN (τ 4) k (τ 4 k - 1)) j (min 99 (upN (τ 4) k (τ 4 k - 1) j + 1)) i = payOne n l (τ 5) (τ 4) k i
        unfold payOne; rw [hf2]; rfl
      · rw [setF_ne h4, setF_ne h4, setF_ne h4]), (Fr.rf.w (by omega) (by omega)).w (by omega) (by omega)⟩⟩
  exact loop 0 (Nat.zero_le _) rfl

-- payAll()
set_option maxHeartbeats 4000000 in
set_option maxRecDepth 100000 in
theorem c_payAll {σ : Sg} {t n y z l : Nat} {τ : Nat → Nat → Nat} (ht : isT t) (hT : TA σ t n y z l τ) : Con 2 yX1_payAll cX1_payAll 3 none [.ref t] σ (PV (fun σ1 => TA σ1 t n y z l (setF τ 4 (payK (pyr l τ) n l (τ 5) (τ 4) n)) ∧ Fr t σ σ1)) := by
  refine Con.of (by decide) (by simp [Value.category]) (Nat.le_of_ble_eq_true rfl) (fun x hB => ?_)
  show V x RX1 cX1_payAll 3 0 [some (.ref t), none, none] [] _
  have hn6 := hT.n6
  have hyb := hT.yb
  refine V.iconst (q := 1) (v := nI 0) dX1_payAll_0 rfl (by decide +kernel) ?_
  refine V.ist1 (q := 2) dX1_payAll_1 rfl ?_
  refine V.iconst (q := 3) (v := nI 0) dX1_payAll_2 rfl (by decide +kernel) ?_
  refine V.ist2 (q := 4) dX1_payAll_3 rfl ?_
  have loop : ∀ j, j ≤ n → ∀ a, a = bsK (pyr l τ) j → V x RX1 cX1_payAll 3 4 [some (.ref t), some (.int (nI a)), some (.int (nI j))] [] σ := by
    refine down n (fun j hj ih a ea => ?_)
    have ha := bsK_lt (pyr l τ) j
    rw [← ea] at ha
    have ha6 : 2 ^ j ≤ 2 ^ 6 := Nat.pow_le_pow_right (by decide) (by omega)
    refine V.iload_n (q := 5) dX1_payAll_4 rfl rfl ?_
    refine V.aload_n (q := 6) dX1_payAll_5 rfl rfl ?_
    refine V.getI (q := 9) dX1_payAll_6 rfl kf_X1_49 (shT ht) (loT ht) rfl (TA.n8 hT) ?_
    refine V.icmpN_ge (t := 51) (q := 12) dX1_payAll_9 (by decide) rfl (by omega) (by omega) (fun c9 => ?_) (fun c9 => ?_)
    · have ej : j = n := by omega
      subst ej
      refine V.iconst (q := 52) (v := nI 0) dX1_payAll_51 rfl (by decide +kernel) ?_
      refine V.ist2 (q := 53) dX1_payAll_52 rfl ?_
      have loop2 : ∀ i, i ≤ j → ∀ σ1, TA σ1 t j y z l (setF τ 4 (payK (pyr l τ) j l (τ 5) (τ 4) i)) → Fr t σ σ1 → V x RX1 cX1_payAll 3 53 [some (.ref t), some (.int (nI a)), some (.int (nI i))] [] σ1 := by
        refine down j (fun i hi ih2 σ1 hT1 hF1 => ?_)
        refine V.iload_n (q := 54) dX1_payAll_53 rfl rfl ?_
        refine V.aload_n (q := 55) dX1_payAll_54 rfl rfl ?_
        refine V.getI (q := 58) dX1_payAll_55 rfl kf_X1_49 (shT ht) (loT ht) rfl (TA.n8 hT1) ?_
        refine V.icmpN_ge (t := 81) (q := 61) dX1_payAll_58 (by decide) rfl (by omega) (by omega) (fun c58 => ?_) (fun c58 => ?_)
        · have ei : i = j := by omega
          subst ei
          exact V.ret_v hB dX1_payAll_81 ⟨rfl, ⟨hT1, hF1⟩⟩
        · refine V.iload_n (q := 62) dX1_payAll_61 rfl rfl ?_
          refine V.iload_n (q := 63) dX1_payAll_62 rfl rfl ?_
          refine V.ishr (q := 64) dX1_payAll_63 rfl ?_
          refine V.iconst (q := 65) (v := nI 1) dX1_payAll_64 rfl (by decide +kernel) ?_
          refine V.iand (q := 66) dX1_payAll_65 rfl ?_
          have hb9 : (nI a >>> (nI i &&& 31)) &&& nI 1 = nI (if pyr l τ i = true then 1 else 0) := by rw [shr_all i (by omega) a (by omega), ea, bsK_bit c58]
          rw [hb9]
          refine V.iconst (q := 67) (v := nI 1) dX1_payAll_66 rfl (by decide +kernel) ?_
          by_cases hpy : pyr l τ i = true
          · rw [if_pos hpy]
            refine V.icmpN_ne (t := 75) (q := 70) dX1_payAll_67 (by decide) rfl (by omega) (by omega) (fun c67 => absurd c67 (by decide +kernel)) (fun c67 => ?_)
            have hge := payK_ge (P := pyr l τ) (l := l) (me := τ 5) (p := τ 4) (n := j) (fun q hq => (hT.w q hq).2.2.2.2.1) i i c58 (Nat.le_refl i)
            have h0 : 0 < τ 4 i := by unfold pyr at hpy; simp at hpy; omega
            have hpp : 1 ≤ setF τ 4 (payK (pyr l τ) j l (τ 5) (τ 4) i) 4 i := by
              show 1 ≤ payK (pyr l τ) j l (τ 5) (τ 4) i i
              omega
            refine V.aload_n (q := 71) dX1_payAll_70 rfl rfl ?_
            refine V.iload_n (q := 72) dX1_payAll_71 rfl rfl ?_
            refine V.cvv1 (q := 75) dX1_payAll_72 rfl kc_X1_96 (shT ht) (loT ht) rfl (hB.rm (by decide)) (Nat.le_of_ble_eq_true rfl) (c_pay ht hT1 (k := i) c58 hpp) (fun τ72 hp72 => ?_)
            obtain ⟨hT2, hF2⟩ := hp72
            refine V.inc2 (q := 78) dX1_payAll_75 rfl (inc1 _) ?_
            refine V.goto (q := 53) dX1_payAll_78 (by decide) ?_
            exact ih2 c58 _ (hT2.cg (fun f hf q hq => by
              by_cases h4 : f = 4
              · subst h4
                show payOne j l (setF τ 4 (payK (pyr l τ) j l (τ 5) (τ 4) i) 5) (payK (pyr l τ) j l (τ 5) (τ 4) i) i q = payK (pyr l τ) j l (τ 5) (τ 4) (i + 1) q
                rw [setF_ne (by decide)]
                conv => rhs; unfold payK
                rw [if_pos hpy]
              · rw [setF_ne h4, setF_ne h4, setF_ne h4])) (hF1.tr hF2)
          · rw [if_neg hpy]
            refine V.icmpN_ne (t := 75) (q := 70) dX1_payAll_67 (by decide) rfl (by omega) (by omega) (fun c67 => ?_) (fun c67 => absurd c67 (by decide +kernel))
            refine V.inc2 (q := 78) dX1_payAll_75 rfl (inc1 _) ?_
            refine V.goto (q := 53) dX1_payAll_78 (by decide) ?_
            exact ih2 c58 _ (hT1.cg (fun f hf q hq => by
              by_cases h4 : f = 4
              · subst h4
                show payK (pyr l τ) j l (τ 5) (τ 4) i q = payK (pyr l τ) j l (τ 5) (τ 4) (i + 1) q
                conv => rhs; unfold payK
                rw [if_neg hpy]
              · rw [setF_ne h4, setF_ne h4])) hF1
      exact loop2 0 (Nat.zero_le _) σ (hT.cg (fun f hf i hi => by
        by_cases h4 : f = 4
        · subst h4; rfl
        · rw [setF_ne h4])) Fr.rf
    · have hw := hT.w j c9
      refine V.aload_n (q := 13) dX1_payAll_12 rfl rfl ?_
      refine V.getR (q := 16) dX1_payAll_13 rfl kf_X1_9 (shT ht) (loT ht) rfl ?_
      refine V.iload_n (q := 17) dX1_payAll_16 rfl rfl ?_
      refine V.ialdN (q := 18) dX1_payAll_17 rfl (shTa ht 1 (by decide) (by decide)) (loTa ht 1 (by decide)) (by omega) (by decide) (TA.a hT 0 (by decide) (by omega)) ?_
      refine V.iconst (q := 19) (v := nI 3) dX1_payAll_18 rfl (by decide +kernel) ?_
      refine V.icmpN_ne (t := 45) (q := 22) dX1_payAll_19 (by decide) rfl (by omega) (by omega) (fun c19 => ?_) (fun c19 => ?_)
      · refine V.inc2 (q := 48) dX1_payAll_45 rfl (inc1 _) ?_
        refine V.goto (q := 4) dX1_payAll_48 (by decide) ?_
        exact ih c9 _ (by unfold bsK; rw [if_neg (by unfold pyr; simp [c19])]; exact ea)
      · refine V.aload_n (q := 23) dX1_payAll_22 rfl rfl ?_
        refine V.getR (q := 26) dX1_payAll_23 rfl kf_X1_24 (shT ht) (loT ht) rfl ?_
        refine V.iload_n (q := 27) dX1_payAll_26 rfl rfl ?_
        refine V.ialdN (q := 28) dX1_payAll_27 rfl (shTa ht 5 (by decide) (by decide)) (loTa ht 5 (by decide)) (by omega) (by decide) (TA.a hT 4 (by decide) (by omega)) ?_
        refine V.ifN_le (t := 45) (q := 31) dX1_payAll_28 (by decide) rfl (by omega) (fun c28 => ?_) (fun c28 => ?_)
        · refine V.inc2 (q := 48) dX1_payAll_45 rfl (inc1 _) ?_
          refine V.goto (q := 4) dX1_payAll_48 (by decide) ?_
          exact ih c9 _ (by unfold bsK; rw [if_neg (by unfold pyr; simp; omega)]; exact ea)
        · refine V.iload_n (q := 32) dX1_payAll_31 rfl rfl ?_
          refine V.aload_n (q := 33) dX1_payAll_32 rfl rfl ?_
          refine V.getI (q := 36) dX1_payAll_33 rfl kf_X1_40 (shT ht) (loT ht) rfl (TA.n11 hT) ?_
          refine V.icmp_eq (t := 45) (q := 39) dX1_payAll_36 (by decide) rfl  (fun c36 => ?_) (fun c36 => ?_)
          · refine V.inc2 (q := 48) dX1_payAll_45 rfl (inc1 _) ?_
            refine V.goto (q := 4) dX1_payAll_48 (by decide) ?_
            exact ih c9 _ (by unfold bsK; rw [if_neg (by unfold pyr; simp [(nz_eq (show j < 6 by omega)).mp c36])]; exact ea)
          · have hjl : j ≠ l := fun e9 => c36 ((nz_eq (by omega)).mpr e9)
            have hpy : pyr l τ j = true := by unfold pyr; simp [c19, hjl]; omega
            refine V.iload_n (q := 40) dX1_payAll_39 rfl rfl ?_
            refine V.iconst (q := 41) (v := nI 1) dX1_payAll_40 rfl (by decide +kernel) ?_
            refine V.iload_n (q := 42) dX1_payAll_41 rfl rfl ?_
            refine V.ishl (q := 43) dX1_payAll_42 rfl ?_
            rw [shl1 (show j < 6 by omega)]
            refine V.ior (q := 44) dX1_payAll_43 rfl ?_
            rw [ior_all j (by omega) a ha]
            refine V.ist1 (q := 45) dX1_payAll_44 rfl ?_
            refine V.inc2 (q := 48) dX1_payAll_45 rfl (inc1 _) ?_
            refine V.goto (q := 4) dX1_payAll_48 (by decide) ?_
            exact ih c9 _ (by unfold bsK; rw [if_pos hpy, ea])
  exact loop 0 (Nat.zero_le _) 0 rfl

