theorem cg_yr {n y z l : Nat} {τ τ3 : Nat → Nat → Nat} (h1 : ∀ i, i < n → τ3 1 i = m1 τ i - accW (τ 5) (wkM y z l τ) n i) (h6 : ∀ i, i < n → τ3 6 i = accW (τ 5) (wkM y z l τ) n i) (h : ∀ f, f ≠ 1 → f ≠ 6 → τ3 f = τ f) :
    ∀ f, f < 7 → ∀ i, i < n → setF τ3 4 (payK (pyr l τ3) n l (τ3 5) (τ3 4) n) f i = yrM n y z l τ f i := by
  have e0 := h 0 (by decide) (by decide)
  have e4 := h 4 (by decide) (by decide)
  have e5 := h 5 (by decide) (by decide)
  have ep : pyr l τ3 = pyr l τ := by funext j; unfold pyr; rw [e0, e4]
  intro f hf i hi
  by_cases f4 : f = 4
  · subst f4
    rw [setF_at, ep, e4, e5]; rfl
  · rw [setF_ne f4]
    by_cases f1 : f = 1
    · subst f1; rw [h1 i hi]; rfl
    · by_cases f6 : f = 6
      · subst f6; rw [h6 i hi]; rfl
      · rw [h f f1 f6]; unfold yrM; rw [if_neg f1, if_neg f4, if_neg f6]
-- passYear()
set_option maxHeartbeats 4000000 in
set_option maxRecDepth 100000 in
theorem c_passYear {σ : Sg} {t n y z l : Nat} {τ : Nat → Nat → Nat} (ht : isT t) (hT : TA σ t n y z l τ) (hy : y + 1 < 2 ^ 30) : Con 3 yX1_passYear cX1_passYear 3 none [.ref t] σ (PV (fun σ1 => TA σ1 t n (y + 1) z l (yrM n y z l τ) ∧ Fr t σ σ1)) := by
  refine Con.of (by decide) (by simp [Value.category]) (Nat.le_of_ble_eq_true rfl) (fun x hB => ?_)
  show V x RX1 cX1_passYear 3 0 [some (.ref t), none, none] [] _
  have hn6 := hT.n6
  have hyb := hT.yb
  refine V.iconst (q := 1) (v := nI 0) dX1_passYear_0 rfl (by decide +kernel) ?_
  refine V.ist1 (q := 2) dX1_passYear_1 rfl ?_
  have loop : ∀ j, j ≤ n → ∀ σ1 τ1, TA σ1 t n y z l τ1 → Fr t σ σ1 → (∀ i, i < n → τ1 1 i = if i < j then m1 τ i else τ 1 i) → (∀ f, f ≠ 1 → τ1 f = τ f) → (∀ i, i < j → σ1 (t + 8) i = nI 0) → V x RX1 cX1_passYear 3 2 [some (.ref t), some (.int (nI j)), none] [] σ1 := by
    refine down n (fun j hj ih σ1 τ1 hT1 hF1 e1 ef e8 => ?_)
    refine V.iload_n (q := 3) dX1_passYear_2 rfl rfl ?_
    refine V.aload_n (q := 4) dX1_passYear_3 rfl rfl ?_
    refine V.getI (q := 7) dX1_passYear_4 rfl kf_X1_49 (shT ht) (loT ht) rfl (TA.n8 hT1) ?_
    refine V.icmpN_ge (t := 47) (q := 10) dX1_passYear_7 (by decide) rfl (by omega) (by omega) (fun c7 => ?_) (fun c7 => ?_)
    · have ej : j = n := by omega
      subst ej
      refine V.iconst (q := 48) (v := nI 0) dX1_passYear_47 rfl (by decide +kernel) ?_
      refine V.ist1 (q := 49) dX1_passYear_48 rfl ?_
      have e1 : ∀ i, i < j → τ1 1 i = m1 τ i := fun i hi => by rw [e1 i hi, if_pos hi]
      have loop2 : ∀ i, i ≤ j → ∀ σ2, TA σ2 t j y z l τ1 → Fr t σ σ2 → (∀ q, q < j → σ2 (t + 8) q = nI (accW (τ 5) (wkM y z l τ) i q)) → ∀ o2, V x RX1 cX1_passYear 3 49 [some (.ref t), some (.int (nI i)), o2] [] σ2 := by
        refine down j (fun i hi ih2 σ2 hT2 hF2 e82 o2 => ?_)
        refine V.iload_n (q := 50) dX1_passYear_49 rfl rfl ?_
        refine V.aload_n (q := 51) dX1_passYear_50 rfl rfl ?_
        refine V.getI (q := 54) dX1_passYear_51 rfl kf_X1_49 (shT ht) (loT ht) rfl (TA.n8 hT2) ?_
        refine V.icmpN_ge (t := 98) (q := 57) dX1_passYear_54 (by decide) rfl (by omega) (by omega) (fun c54 => ?_) (fun c54 => ?_)
        · have ei : i = j := by omega
          subst ei
          refine V.iconst (q := 99) (v := nI 0) dX1_passYear_98 rfl (by decide +kernel) ?_
          refine V.ist1 (q := 100) dX1_passYear_99 rfl ?_
          have hacc : ∀ q, accW (τ 5) (wkM y z l τ) i q ≤ 48 := fun q => by
            have := accW_le (me := τ 5) (w := wkM y z l τ) (n := i) (fun q hq => wkM_le hT.w hq) i q (Nat.le_refl i)
            omega
          have loop3 : ∀ k, k ≤ i → ∀ σ3 τ3, TA σ3 t i y z l τ3 → Fr t σ σ3 → (∀ q, q < i → σ3 (t + 8) q = nI (accW (τ 5) (wkM y z l τ) i q)) → (∀ q, q < i → τ3 1 q = if q < k then m1 τ q - accW (τ 5) (wkM y z l τ) i q else m1 τ q) → (∀ q, q < k → τ3 6 q = accW (τ 5) (wkM y z l τ) i q) → (∀ f, f ≠ 1 → f ≠ 6 → τ3 f = τ f) → ∀ o2, V x RX1 cX1_passYear 3 100 [some (.ref t), some (.int (nI k)), o2] [] σ3 := by
            refine down i (fun k hk ih3 σ3 τ3 hT3 hF3 e83 e13 e63 ef3 o3 => ?_)
            refine V.iload_n (q := 101) dX1_passYear_100 rfl rfl ?_
            refine V.aload_n (q := 102) dX1_passYear_101 rfl rfl ?_
            refine V.getI (q := 105) dX1_passYear_102 rfl kf_X1_49 (shT ht) (loT ht) rfl (TA.n8 hT3) ?_
            refine V.icmpN_ge (t := 149) (q := 108) dX1_passYear_105 (by decide) rfl (by omega) (by omega) (fun c105 => ?_) (fun c105 => ?_)
            · have ek : k = i := by omega
              subst ek
              refine V.aload_n (q := 150) dX1_passYear_149 rfl rfl ?_
              refine V.cvv0 (q := 153) dX1_passYear_150 rfl kc_X1_90 (shT ht) (loT ht) rfl (hB.rm (by decide)) (Nat.le_of_ble_eq_true rfl) (c_payAll ht hT3) (fun τ150 hp150 => ?_)
              obtain ⟨hT6, hF6⟩ := hp150
              have hT7 := hT6.cg (cg_yr (y := y) (z := z) (τ := τ) (fun q hq => by rw [e13 q hq, if_pos hq]) e63 ef3)
              refine V.aload_n (q := 154) dX1_passYear_153 rfl rfl ?_
              refine V.dup (q := 155) dX1_passYear_154 rfl rfl ?_
              refine V.getI (q := 158) dX1_passYear_155 rfl kf_X1_52 (shT ht) (loT ht) rfl (TA.n9 hT7) ?_
              refine V.iconst (q := 159) (v := nI 1) dX1_passYear_158 rfl (by decide +kernel) ?_
              refine V.iaddN (q := 160) dX1_passYear_159 rfl ?_
              refine V.putI (q := 163) dX1_passYear_160 rfl kp_X1_52 (shT ht) (loT ht) rfl rfl rfl ?_
              exact V.ret_v hB dX1_passYear_163 ⟨rfl, ⟨hT7.wy hy, (hF3.tr hF6).w (by omega) (by omega)⟩⟩
            · have hw := hT3.w k c105
              have ha9 := hacc k
              refine V.aload_n (q := 109) dX1_passYear_108 rfl rfl ?_
              refine V.getR (q := 112) dX1_passYear_109 rfl kf_X1_30 (shT ht) (loT ht) rfl ?_
              refine V.iload_n (q := 113) dX1_passYear_112 rfl rfl ?_
              refine V.aload_n (q := 114) dX1_passYear_113 rfl rfl ?_
              refine V.getR (q := 117) dX1_passYear_114 rfl kf_X1_33 (shT ht) (loT ht) rfl ?_
              refine V.iload_n (q := 118) dX1_passYear_117 rfl rfl ?_
              refine V.ialdN (q := 119) dX1_passYear_118 rfl (shTa ht 8 (by decide) (by decide)) (loTa ht 8 (by decide)) (by omega) (by decide) (e83 _ c105) ?_
              refine V.iastN (q := 120) dX1_passYear_119 rfl (shTa ht 7 (by decide) (by decide)) (loTa ht 7 (by decide)) (by omega) (by decide) ?_
              have hT4 := hT3.wr (f := 6) (v := accW (τ 5) (wkM y z l τ) i k) (by decide) c105 (by unfold okF; omega)
              have hF4 := hF3.w (o := t + 7) (k := k) (x := nI (accW (τ 5) (wkM y z l τ) i k)) (by omega) (by omega)
              refine V.aload_n (q := 121) dX1_passYear_120 rfl rfl ?_
              refine V.getR (q := 124) dX1_passYear_121 rfl kf_X1_15 (shT ht) (loT ht) rfl ?_
              refine V.iload_n (q := 125) dX1_passYear_124 rfl rfl ?_
              refine V.iconst (q := 126) (v := nI 0) dX1_passYear_125 rfl (by decide +kernel) ?_
              refine V.aload_n (q := 127) dX1_passYear_126 rfl rfl ?_
              refine V.getR (q := 130) dX1_passYear_127 rfl kf_X1_15 (shT ht) (loT ht) rfl ?_
              refine V.iload_n (q := 131) dX1_passYear_130 rfl rfl ?_
              refine V.ialdN (q := 132) dX1_passYear_131 rfl (shTa ht 2 (by decide) (by decide)) (loTa ht 2 (by decide)) (by omega) (by decide) (show _ = nI (τ3 1 k) from TA.a hT4 1 (by decide) c105) ?_
              refine V.aload_n (q := 133) dX1_passYear_132 rfl rfl ?_
              refine V.getR (q := 136) dX1_passYear_133 rfl kf_X1_33 (shT ht) (loT ht) rfl ?_
              refine V.iload_n (q := 137) dX1_passYear_136 rfl rfl ?_
              refine V.ialdN (q := 138) dX1_passYear_137 rfl (shTa ht 8 (by decide) (by decide)) (loTa ht 8 (by decide)) (by omega) (by decide) (show _ = nI (accW (τ 5) (wkM y z l τ) i k) by rw [w2_ne (by omega)]; exact e83 k c105) ?_
              refine V.isub (q := 139) dX1_passYear_138 rfl ?_
              refine V.max (q := 142) dX1_passYear_139 rfl kc_X1_87 (hB.rm (by decide)) (Nat.le_of_ble_eq_true rfl) (max0 (by omega) (by omega)) ?_
              refine V.iastN (q := 143) dX1_passYear_142 rfl (shTa ht 2 (by decide) (by decide)) (loTa ht 2 (by decide)) (by omega) (by decide) ?_
              have hT5 := hT4.wr (f := 1) (v := τ3 1 k - accW (τ 5) (wkM y z l τ) i k) (by decide) c105 (by unfold okF; omega)
              have hF5 := hF4.w (o := t + 2) (k := k) (x := nI (τ3 1 k - accW (τ 5) (wkM y z l τ) i k)) (by omega) (by omega)
              refine V.inc1 (q := 146) dX1_passYear_143 rfl (inc1 _) ?_
              refine V.goto (q := 100) dX1_passYear_146 (by decide) ?_
              refine ih3 c105 _ _ hT5 hF5 (fun q hq => ?_) (fun q hq => ?_) (fun q hq => ?_) (fun f h1 h6 => ?_) _
              · rw [w2_ne (by omega), w2_ne (by omega)]; exact e83 q hq
              · rw [setF_at, setF_ne (by decide)]; unfold upN
                by_cases h9 : q = k
                · subst h9
                  rw [if_pos rfl, if_pos (by omega), e13 q hq, if_neg (by omega)]
                · rw [if_neg h9, e13 q hq]
                  by_cases h8 : q < k
                  · rw [if_pos h8, if_pos (by omega)]
                  · rw [if_neg h8, if_neg (by omega)]
              · rw [setF_ne (by decide), setF_at]; unfold upN
                by_cases h9 : q = k
                · subst h9; rw [if_pos rfl]
                · rw [if_neg h9]; exact e63 q (by omega)
              · rw [setF_ne h1, setF_ne h6]; exact ef3 f h1 h6
          exact loop3 0 (Nat.zero_le _) σ2 τ1 hT2 hF2 e82 (fun q hq => by rw [e1 q hq, if_neg (by omega)]) (fun q hq => absurd hq (by omega)) (fun f h1 _ => ef f h1) _
        · have hw := hT2.w i c54
          have e5 : τ1 5 i = τ 5 i := by rw [ef 5 (by decide)]
          have hh := hw.2.2.2.2.2.1
          have hwh := hT2.w (τ1 5 i) hh
          have hwk : workM y z l τ1 i (τ1 1 (τ1 5 i)) = wkM y z l τ i := by
            unfold wkM workM trustM
            rw [ef 0 (by decide), ef 3 (by decide), ef 4 (by decide), ef 6 (by decide), e5, e1 _ (by rw [← e5]; exact hh)]
          have hac := accW_le (me := τ 5) (w := wkM y z l τ) (n := j) (fun q hq => wkM_le hT.w hq) i (τ1 5 i) (by omega)
          have hwl := wkM_le (y := y) (z := z) (l := l) hT.w c54
          refine V.aload_n (q := 58) dX1_passYear_57 rfl rfl ?_
          refine V.getR (q := 61) dX1_passYear_58 rfl kf_X1_27 (shT ht) (loT ht) rfl ?_
          refine V.iload_n (q := 62) dX1_passYear_61 rfl rfl ?_
          refine V.ialdN (q := 63) dX1_passYear_62 rfl (shTa ht 6 (by decide) (by decide)) (loTa ht 6 (by decide)) (by omega) (by decide) (TA.a hT2 5 (by decide) (by omega)) ?_
          refine V.ist2 (q := 64) dX1_passYear_63 rfl ?_
          refine V.aload_n (q := 65) dX1_passYear_64 rfl rfl ?_
          refine V.iload_n (q := 66) dX1_passYear_65 rfl rfl ?_
          refine V.cvi1 (q := 69) dX1_passYear_66 rfl kc_X1_59 (shT ht) (loT ht) rfl (hB.rm (by decide)) (Nat.le_of_ble_eq_true rfl) (c_isS1 ht hT2 hh) (fun r66 τ66 hp66 => ?_)
          obtain ⟨rfl, hz⟩ := hp66
          rw [hz]
          refine V.ifN_eq (t := 92) (q := 72) dX1_passYear_69 (by decide) rfl (by omega) (fun c69 => absurd c69 (by decide +kernel)) (fun c69 => ?_)
          refine V.aload_n (q := 73) dX1_passYear_72 rfl rfl ?_
          refine V.getR (q := 76) dX1_passYear_73 rfl kf_X1_33 (shT ht) (loT ht) rfl ?_
          refine V.iload_n (q := 77) dX1_passYear_76 rfl rfl ?_
          refine V.dup2 (q := 78) dX1_passYear_77 rfl rfl rfl ?_
          refine V.ialdN (q := 79) dX1_passYear_78 rfl (shTa ht 8 (by decide) (by decide)) (loTa ht 8 (by decide)) (by omega) (by decide) (e82 _ hh) ?_
          refine V.aload_n (q := 80) dX1_passYear_79 rfl rfl ?_
          refine V.iload_n (q := 81) dX1_passYear_80 rfl rfl ?_
          refine V.aload_n (q := 82) dX1_passYear_81 rfl rfl ?_
          refine V.getR (q := 85) dX1_passYear_82 rfl kf_X1_15 (shT ht) (loT ht) rfl ?_
          refine V.iload_n (q := 86) dX1_passYear_85 rfl rfl ?_
          refine V.ialdN (q := 87) dX1_passYear_86 rfl (shTa ht 2 (by decide) (by decide)) (loTa ht 2 (by decide)) (by omega) (by decide) (TA.a hT2 1 (by decide) (by omega)) ?_
          refine V.cvi2 (q := 90) dX1_passYear_87 rfl kc_X1_84 (shT ht) (loT ht) rfl (hB.rm (by decide)) (Nat.le_of_ble_eq_true rfl) (c_workOf ht hT2 c54 (mt := τ1 1 (τ1 5 i)) (by omega)) (fun r87 τ87 hp87 => ?_)
          obtain ⟨rfl, hz⟩ := hp87
          rw [hz]
          refine V.iaddN (q := 91) dX1_passYear_90 rfl ?_
          refine V.iastN (q := 92) dX1_passYear_91 rfl (shTa ht 8 (by decide) (by decide)) (loTa ht 8 (by decide)) (by omega) (by decide) ?_
          refine V.inc1 (q := 95) dX1_passYear_92 rfl (inc1 _) ?_
          refine V.goto (q := 49) dX1_passYear_95 (by decide) ?_
          refine ih2 c54 _ (hT2.wo (o := t + 8) (k := τ1 5 i) (fun h9 => absurd h9.2 (by omega))) (hF2.w (by omega) (by omega)) (fun q hq => ?_) _
          rw [w2_rd]
          by_cases h9 : q = τ1 5 i
          · subst h9
            rw [if_pos ⟨rfl, rfl⟩, hwk]
            show _ = nI (accW (τ 5) (wkM y z l τ) (i + 1) (τ1 5 i))
            conv => rhs; unfold accW
            rw [if_pos e5.symm]
          · rw [if_neg (fun h8 => h9 h8.2), e82 q hq]
            conv => rhs; unfold accW
            rw [if_neg (fun h8 => h9 (by rw [e5]; exact h8.symm))]
      refine loop2 0 (Nat.zero_le _) σ1 hT1 hF1 (fun q hq => e8 q hq) _
    · have hw := hT1.w j c7
      refine V.aload_n (q := 11) dX1_passYear_10 rfl rfl ?_
      refine V.getR (q := 14) dX1_passYear_11 rfl kf_X1_15 (shT ht) (loT ht) rfl ?_
      refine V.iload_n (q := 15) dX1_passYear_14 rfl rfl ?_
      refine V.bipush (q := 17) (v := nI 9) dX1_passYear_15 rfl (by decide +kernel) ?_
      refine V.aload_n (q := 18) dX1_passYear_17 rfl rfl ?_
      refine V.getR (q := 21) dX1_passYear_18 rfl kf_X1_15 (shT ht) (loT ht) rfl ?_
      refine V.iload_n (q := 22) dX1_passYear_21 rfl rfl ?_
      refine V.ialdN (q := 23) dX1_passYear_22 rfl (shTa ht 2 (by decide) (by decide)) (loTa ht 2 (by decide)) (by omega) (by decide) (TA.a hT1 1 (by decide) (by omega)) ?_
      refine V.aload_n (q := 24) dX1_passYear_23 rfl rfl ?_
      refine V.getR (q := 27) dX1_passYear_24 rfl kf_X1_18 (shT ht) (loT ht) rfl ?_
      refine V.iload_n (q := 28) dX1_passYear_27 rfl rfl ?_
      refine V.ialdN (q := 29) dX1_passYear_28 rfl (shTa ht 3 (by decide) (by decide)) (loTa ht 3 (by decide)) (by omega) (by decide) (TA.a hT1 2 (by decide) (by omega)) ?_
      refine V.iaddN (q := 30) dX1_passYear_29 rfl ?_
      refine V.min (q := 33) dX1_passYear_30 rfl kc_X1_78 (hB.rm (by decide)) (Nat.le_of_ble_eq_true rfl) (minN (by omega) (by omega)) ?_
      refine V.iastN (q := 34) dX1_passYear_33 rfl (shTa ht 2 (by decide) (by decide)) (loTa ht 2 (by decide)) (by omega) (by decide) ?_
      have hT2 := hT1.wr (f := 1) (v := min 9 (τ1 1 j + τ1 2 j)) (by decide) c7 (by unfold okF; omega)
      have hF2 := hF1.w (o := t + 2) (k := j) (x := nI (min 9 (τ1 1 j + τ1 2 j))) (by omega) (by omega)
      refine V.aload_n (q := 35) dX1_passYear_34 rfl rfl ?_
      refine V.getR (q := 38) dX1_passYear_35 rfl kf_X1_33 (shT ht) (loT ht) rfl ?_
      refine V.iload_n (q := 39) dX1_passYear_38 rfl rfl ?_
      refine V.iconst (q := 40) (v := nI 0) dX1_passYear_39 rfl (by decide +kernel) ?_
      refine V.iastN (q := 41) dX1_passYear_40 rfl (shTa ht 8 (by decide) (by decide)) (loTa ht 8 (by decide)) (by omega) (by decide) ?_
      refine V.inc1 (q := 44) dX1_passYear_41 rfl (inc1 _) ?_
      refine V.goto (q := 2) dX1_passYear_44 (by decide) ?_
      refine ih c7 _ _ (hT2.wo (o := t + 8) (k := j) (x := nI 0) (fun h9 => absurd h9.2 (by omega))) (hF2.w (by omega) (by omega)) (fun i hi => ?_) (fun f hf => ?_) (fun i hi => ?_)
      · rw [setF_at]; unfold upN
        by_cases h9 : i = j
        · subst h9
          rw [if_pos rfl, if_pos (by omega), e1 i hi, if_neg (by omega), ef 2 (by decide)]; rfl
        · rw [if_neg h9, e1 i hi]
          by_cases h8 : i < j
          · rw [if_pos h8, if_pos (by omega)]
          · rw [if_neg h8, if_neg (by omega)]
      · rw [setF_ne hf]; exact ef f hf
      · rw [w2_rd]
        by_cases h9 : i = j
        · rw [if_pos ⟨rfl, h9⟩]
        · rw [if_neg (fun q => h9 q.2), w2_rd, if_neg (fun q => by omega)]
          exact e8 i (by omega)
  exact loop 0 (Nat.zero_le _) σ τ hT Fr.rf (fun i hi => by simp) (fun _ _ => rfl) (fun i h9 => absurd h9 (by omega))

-- mudBehind(k)
theorem yrs_wf {n y z l : Nat} {τ : Nat → Nat → Nat} (hn : n ≤ 6) (h : WFt n τ) : ∀ k, WFt n (yrsM n y z l τ k)
  | 0 => h
  | k + 1 => yrM_wf hn (yrs_wf hn h k)
set_option maxHeartbeats 4000000 in
set_option maxRecDepth 100000 in
theorem c_mudBehind {σ : Sg} {t n y z l : Nat} {τ : Nat → Nat → Nat} (ht : isT t) (hT : TA σ t n y z l τ) {k : Nat} (hy : y + k < 2 ^ 30) : Con 4 yX1_mudBehind cX1_mudBehind 3 (some .int) [.ref t, .int (nI k)] σ (PI (fun r σ1 => r = nI (sumK (yrsM n y z l τ k 1) n) ∧ TA σ1 t n (y + k) z l (yrsM n y z l τ k) ∧ Fr t σ σ1)) := by
  refine Con.of (by decide) (by simp [Value.category]) (Nat.le_of_ble_eq_true rfl) (fun x hB => ?_)
  show V x RX1 cX1_mudBehind 3 0 [some (.ref t), some (.int (nI k)), none] [] _
  have hn6 := hT.n6
  have hyb := hT.yb
  refine V.iconst (q := 1) (v := nI 0) dX1_mudBehind_0 rfl (by decide +kernel) ?_
  refine V.ist2 (q := 2) dX1_mudBehind_1 rfl ?_
  have loop : ∀ j, j ≤ k → ∀ σ1, TA σ1 t n (y + j) z l (yrsM n y z l τ j) → Fr t σ σ1 → V x RX1 cX1_mudBehind 3 2 [some (.ref t), some (.int (nI k)), some (.int (nI j))] [] σ1 := by
    refine down k (fun j hj ih σ1 hT1 hF1 => ?_)
    refine V.iload_n (q := 3) dX1_mudBehind_2 rfl rfl ?_
    refine V.iload_n (q := 4) dX1_mudBehind_3 rfl rfl ?_
    refine V.icmpN_ge (t := 17) (q := 7) dX1_mudBehind_4 (by decide) rfl (by omega) (by omega) (fun c4 => ?_) (fun c4 => ?_)
    · have ej : j = k := by omega
      subst ej
      refine V.aload_n (q := 18) dX1_mudBehind_17 rfl rfl ?_
      refine V.cvi0 (q := 21) dX1_mudBehind_18 rfl kc_X1_74 (shT ht) (loT ht) rfl (hB.rm (by decide)) (Nat.le_of_ble_eq_true rfl) (c_mudOfAll ht hT1) (fun r18 τ18 hp18 => ?_)
      obtain ⟨rfl, hz⟩ := hp18
      rw [hz]
      exact V.ret_int hB dX1_mudBehind_21 rfl ⟨_, rfl, ⟨rfl, hT1, hF1⟩⟩
    · refine V.aload_n (q := 8) dX1_mudBehind_7 rfl rfl ?_
      refine V.cvv0 (q := 11) dX1_mudBehind_8 rfl kc_X1_71 (shT ht) (loT ht) rfl (hB.rm (by decide)) (Nat.le_of_ble_eq_true rfl) (c_passYear ht hT1 (by omega)) (fun τ8 hp8 => ?_)
      obtain ⟨hT2, hF2⟩ := hp8
      refine V.inc2 (q := 14) dX1_mudBehind_11 rfl (inc1 _) ?_
      refine V.goto (q := 2) dX1_mudBehind_14 (by decide) ?_
      exact ih c4 _ hT2 (hF1.tr hF2)
  exact loop 0 (Nat.zero_le _) σ hT Fr.rf

