theorem sub_two (u v : Int32) : u + v - (v + v) = u - v := by
  rw [← Int32.sub_sub, Int32.add_sub_cancel]
theorem dec_sub (k : Nat) : nI k + Int32.ofInt (-1) = nI k - nI 1 := by
  rw [Int32.sub_eq_add_neg]; rfl
theorem fin1 {n y : Nat} {τ : Nat → Nat → Nat} {j : Nat} {s : Nat × List Nat} (es : s = ((PL n).take (PL n).length).foldl (bmS (bmG n y τ j)) (55, [])) : nI s.1 = nI (bmM n y τ j).1 := by
  rw [es, List.take_length]; rfl
theorem fin2 {n y : Nat} {τ : Nat → Nat → Nat} {j : Nat} {s : Nat × List Nat} {f : Nat → Int32} (es : s = ((PL n).take (PL n).length).foldl (bmS (bmG n y τ j)) (55, [])) (h : ∀ q, q < n → f q = nI (lf s.2 q)) : ∀ q, q < n → f q = nI (lf (bmM n y τ j).2 q) := by
  intro q hq
  rw [h q hq, es, List.take_length]; rfl
-- swapInMap(i, j)
set_option maxHeartbeats 4000000 in
set_option maxRecDepth 100000 in
theorem p_swap {σ : Sg} {n : Nat} {a : Nat → Nat} (hn6 : n ≤ 6) (hM : MA σ n a) {i j : Nat} (hi : i < n) (hj : j < n) : Con 1 yX2_swapInMap cX2_swapInMap 4 none [.ref 0, .int (nI i), .int (nI j)] σ (PV (fun σ1 => MA σ1 n (swF a i j) ∧ ∀ o, o ≠ 39 → σ1 o = σ o)) := by
  refine Con.of (by decide) (by simp [Value.category]) (Nat.le_of_ble_eq_true rfl) (fun x hB => ?_)
  show V x RX2 cX2_swapInMap 4 0 [some (.ref 0), some (.int (nI i)), some (.int (nI j)), none] [] _
  refine V.aload_n (q := 1) dX2_swapInMap_0 rfl rfl ?_
  refine V.getR (q := 4) dX2_swapInMap_1 rfl kf_X2_32 rfl (by decide) rfl ?_
  refine V.iload_n (q := 5) dX2_swapInMap_4 rfl rfl ?_
  refine V.ialdN (q := 6) dX2_swapInMap_5 rfl rfl (by decide) (by omega) (by decide) (hM i hi).1 ?_
  refine V.ist3 (q := 7) dX2_swapInMap_6 rfl ?_
  refine V.aload_n (q := 8) dX2_swapInMap_7 rfl rfl ?_
  refine V.getR (q := 11) dX2_swapInMap_8 rfl kf_X2_32 rfl (by decide) rfl ?_
  refine V.iload_n (q := 12) dX2_swapInMap_11 rfl rfl ?_
  refine V.aload_n (q := 13) dX2_swapInMap_12 rfl rfl ?_
  refine V.getR (q := 16) dX2_swapInMap_13 rfl kf_X2_32 rfl (by decide) rfl ?_
  refine V.iload_n (q := 17) dX2_swapInMap_16 rfl rfl ?_
  refine V.ialdN (q := 18) dX2_swapInMap_17 rfl rfl (by decide) (by omega) (by decide) (hM j hj).1 ?_
  refine V.iastN (q := 19) dX2_swapInMap_18 rfl rfl (by decide) (by omega) (by decide) ?_
  refine V.aload_n (q := 20) dX2_swapInMap_19 rfl rfl ?_
  refine V.getR (q := 23) dX2_swapInMap_20 rfl kf_X2_32 rfl (by decide) rfl ?_
  refine V.iload_n (q := 24) dX2_swapInMap_23 rfl rfl ?_
  refine V.iload_n (q := 25) dX2_swapInMap_24 rfl rfl ?_
  refine V.iastN (q := 26) dX2_swapInMap_25 rfl rfl (by decide) (by omega) (by decide) ?_
  exact V.ret_v hB dX2_swapInMap_26 ⟨rfl, ⟨hM.sw hi hj, fun o ho => by rw [w2_ne ho, w2_ne ho]⟩⟩

-- goToNextMap(n)
set_option maxHeartbeats 4000000 in
set_option maxRecDepth 100000 in
theorem p_next {σ : Sg} {n : Nat} {a : Nat → Nat} (hn6 : n ≤ 6) (hM : MA σ n a) : Con 2 yX2_goToNextMap cX2_goToNextMap 6 (some .boolean) [.ref 0, .int (nI n)] σ (PI (fun r σ1 => (r = nI 0 ∧ σ1 = σ ∧ tuK a (n - 1) = none) ∨ (r = nI 1 ∧ ∃ t, tuK a (n - 1) = some t ∧ MA σ1 n (nxF n a t) ∧ ∀ o, o ≠ 39 → σ1 o = σ o))) := by
  refine Con.of (by decide) (by simp [Value.category]) (Nat.le_of_ble_eq_true rfl) (fun x hB => ?_)
  show V x RX2 cX2_goToNextMap 6 0 [some (.ref 0), some (.int (nI n)), none, none, none, none] [] _
  refine V.iload_n (q := 1) dX2_goToNextMap_0 rfl rfl ?_
  refine V.iconst (q := 2) (v := nI 2) dX2_goToNextMap_1 rfl (by decide +kernel) ?_
  rcases Nat.eq_zero_or_pos n with hn0 | hn0
  · have e9 : nI n - nI 2 = -2 := by subst hn0; decide +kernel
    have hno : tuK a (n - 1) = none := by subst hn0; rfl
    refine V.isub (q := 3) dX2_goToNextMap_2 rfl ?_
    rw [e9]
    refine V.ist2 (q := 4) dX2_goToNextMap_3 rfl ?_
    refine V.iload_n (q := 5) dX2_goToNextMap_4 rfl rfl ?_
    refine V.if_lt (t := 31) (q := 8) dX2_goToNextMap_5 (by decide) rfl  (fun c5 => ?_) (fun c5 => absurd c5 (by decide +kernel))
    refine V.iload_n (q := 32) dX2_goToNextMap_31 rfl rfl ?_
    refine V.if_ge (t := 37) (q := 35) dX2_goToNextMap_32 (by decide) rfl  (fun c32 => absurd c32 (by decide +kernel)) (fun c32 => ?_)
    refine V.iconst (q := 36) (v := nI 0) dX2_goToNextMap_35 rfl (by decide +kernel) ?_
    exact V.ret_int hB dX2_goToNextMap_36 (by decide +kernel) ⟨_, rfl, Or.inl ⟨rfl, rfl, hno⟩⟩
  · refine V.isub (q := 3) dX2_goToNextMap_2 rfl ?_
    have e9 : nI n - nI 2 = nI (n - 1) - nI 1 := by
      obtain ⟨q, rfl⟩ : ∃ q, n = q + 1 := ⟨n - 1, by omega⟩
      show nI (q + 1) - nI 2 = nI (q + 1 - 1) - nI 1
      rw [show nI (q + 1) = nI q + nI 1 from (nI_add q 1).symm, show nI 2 = nI 1 + nI 1 from (nI_add 1 1).symm, show q + 1 - 1 = q from rfl]
      exact sub_two _ _
    rw [e9]
    refine V.ist2 (q := 4) dX2_goToNextMap_3 rfl ?_
    have loop : ∀ k, k ≤ n - 1 → tuK a k = tuK a (n - 1) → V x RX2 cX2_goToNextMap 6 4 [some (.ref 0), some (.int (nI n)), some (.int (nI k - nI 1)), none, none, none] [] σ := by
      refine up0 (fun k ih hk htu => ?_)
      refine V.iload_n (q := 5) dX2_goToNextMap_4 rfl rfl ?_
      rcases k with _ | k
      · have e8 : nI 0 - nI 1 = -1 := by decide +kernel
        have hno : tuK a (n - 1) = none := htu.symm
        rw [e8]
        refine V.if_lt (t := 31) (q := 8) dX2_goToNextMap_5 (by decide) rfl  (fun c5 => ?_) (fun c5 => absurd c5 (by decide +kernel))
        refine V.iload_n (q := 32) dX2_goToNextMap_31 rfl rfl ?_
        refine V.if_ge (t := 37) (q := 35) dX2_goToNextMap_32 (by decide) rfl  (fun c32 => absurd c32 (by decide +kernel)) (fun c32 => ?_)
        refine V.iconst (q := 36) (v := nI 0) dX2_goToNextMap_35 rfl (by decide +kernel) ?_
        exact V.ret_int hB dX2_goToNextMap_36 (by decide +kernel) ⟨_, rfl, Or.inl ⟨rfl, rfl, hno⟩⟩
      · have e8 : nI (k + 1) - nI 1 = nI k := pk_sub (by omega)
        rw [e8]
        have h1 := hM k (by omega)
        have h2 := hM (k + 1) (by omega)
        refine V.ifN_lt (t := 31) (q := 8) dX2_goToNextMap_5 (by decide) rfl (by omega) (fun c5 => absurd c5 (by omega)) (fun c5 => ?_)
        refine V.aload_n (q := 9) dX2_goToNextMap_8 rfl rfl ?_
        refine V.getR (q := 12) dX2_goToNextMap_9 rfl kf_X2_32 rfl (by decide) rfl ?_
        refine V.iload_n (q := 13) dX2_goToNextMap_12 rfl rfl ?_
        refine V.ialdN (q := 14) dX2_goToNextMap_13 rfl rfl (by decide) (by omega) (by decide) h1.1 ?_
        refine V.aload_n (q := 15) dX2_goToNextMap_14 rfl rfl ?_
        refine V.getR (q := 18) dX2_goToNextMap_15 rfl kf_X2_32 rfl (by decide) rfl ?_
        refine V.iload_n (q := 19) dX2_goToNextMap_18 rfl rfl ?_
        refine V.iconst (q := 20) (v := nI 1) dX2_goToNextMap_19 rfl (by decide +kernel) ?_
        refine V.iaddN (q := 21) dX2_goToNextMap_20 rfl ?_
        refine V.ialdN (q := 22) dX2_goToNextMap_21 rfl rfl (by decide) (by omega) (by decide) h2.1 ?_
        refine V.icmpN_le (t := 31) (q := 25) dX2_goToNextMap_22 (by decide) rfl (show a k < 2 ^ 31 by omega) (show a (k + 1) < 2 ^ 31 by omega) (fun c22 => ?_) (fun c22 => ?_)
        · have hso : tuK a (n - 1) = some k := by rw [← htu]; unfold tuK; rw [if_neg (by omega)]
          refine V.iload_n (q := 32) dX2_goToNextMap_31 rfl rfl ?_
          refine V.ifN_ge (t := 37) (q := 35) dX2_goToNextMap_32 (by decide) rfl (by omega) (fun c32 => ?_) (fun c32 => absurd c32 (by omega))
          refine V.iload_n (q := 38) dX2_goToNextMap_37 rfl rfl ?_
          refine V.iconst (q := 39) (v := nI 1) dX2_goToNextMap_38 rfl (by decide +kernel) ?_
          refine V.isubN (q := 40) dX2_goToNextMap_39 rfl (by omega) ?_
          refine V.ist3 (q := 41) dX2_goToNextMap_40 rfl ?_
          have hkn : k < n - 1 := tuK_lt hso
          have loop2 : ∀ g, k ≤ g → g ≤ n - 1 → grK a k g = grK a k (n - 1) → V x RX2 cX2_goToNextMap 6 41 [some (.ref 0), some (.int (nI n)), some (.int (nI k)), some (.int (nI g)), none, none] [] σ := by
            refine up0 (fun g ih2 hkg hgn hgr => ?_)
            refine V.iload_n (q := 42) dX2_goToNextMap_41 rfl rfl ?_
            refine V.iload_n (q := 43) dX2_goToNextMap_42 rfl rfl ?_
            refine V.icmpN_le (t := 67) (q := 46) dX2_goToNextMap_43 (by decide) rfl (by omega) (by omega) (fun c43 => ?_) (fun c43 => ?_)
            · have hge : grK a k (n - 1) = g := by
                rw [← hgr]
                rcases g with _ | g
                · rfl
                · unfold grK; rw [if_neg (by omega)]
              have hb := grK_b (a := a) (t := k) (g := n - 1) (by omega)
              rw [hge] at hb
              refine V.aload_n (q := 68) dX2_goToNextMap_67 rfl rfl ?_
              refine V.iload_n (q := 69) dX2_goToNextMap_68 rfl rfl ?_
              refine V.iload_n (q := 70) dX2_goToNextMap_69 rfl rfl ?_
              refine V.cvv2 (q := 73) dX2_goToNextMap_70 rfl kc_X2_217 rfl (by decide) rfl (hB.rm (by decide)) (Nat.le_of_ble_eq_true rfl) (p_swap hn6 hM (i := k) (j := g) (by omega) (by omega)) (fun τ70 hp70 => ?_)
              obtain ⟨hM2, hF2⟩ := hp70
              rw [← hge] at hM2
              refine V.iload_n (q := 74) dX2_goToNextMap_73 rfl rfl ?_
              refine V.iconst (q := 75) (v := nI 1) dX2_goToNextMap_74 rfl (by decide +kernel) ?_
              refine V.iaddN (q := 76) dX2_goToNextMap_75 rfl ?_
              refine V.ist4 (q := 78) dX2_goToNextMap_76 rfl ?_
              refine V.iload_n (q := 79) dX2_goToNextMap_78 rfl rfl ?_
              refine V.iconst (q := 80) (v := nI 1) dX2_goToNextMap_79 rfl (by decide +kernel) ?_
              refine V.isubN (q := 81) dX2_goToNextMap_80 rfl (by omega) ?_
              refine V.ist5 (q := 83) dX2_goToNextMap_81 rfl ?_
              have loop3 : ∀ f l h b σ3, h ≤ l + f → l ≤ n → h ≤ n - 1 → MA σ3 n b → (∀ o, o ≠ 39 → σ3 o = σ o) → rvK f b l h = nxF n a k → ∀ o3, V x RX2 cX2_goToNextMap 6 83 [some (.ref 0), some (.int (nI n)), some (.int (nI k)), o3, some (.int (nI l)), some (.int (nI h))] [] σ3 := by
                refine up0 (fun f ih3 l h b σ3 hlf hln hhn hM3 hF3 hrv o3 => ?_)
                refine V.iload (q := 85) dX2_goToNextMap_83 rfl rfl ?_
                refine V.iload (q := 87) dX2_goToNextMap_85 rfl rfl ?_
                refine V.icmpN_ge (t := 107) (q := 90) dX2_goToNextMap_87 (by decide) rfl (by omega) (by omega) (fun c87 => ?_) (fun c87 => ?_)
                · have hre : b = nxF n a k := by
                    rw [← hrv]
                    rcases f with _ | f
                    · rfl
                    · unfold rvK; rw [if_neg (by omega)]
                  refine V.iconst (q := 108) (v := nI 1) dX2_goToNextMap_107 rfl (by decide +kernel) ?_
                  exact V.ret_int hB dX2_goToNextMap_108 (by decide +kernel) ⟨_, rfl, Or.inr ⟨rfl, k, hso, by rw [← hre]; exact hM3, hF3⟩⟩
                · obtain ⟨f, rfl⟩ : ∃ q, f = q + 1 := ⟨f - 1, by omega⟩
                  obtain ⟨h, rfl⟩ : ∃ q, h = q + 1 := ⟨h - 1, by omega⟩
                  refine V.aload_n (q := 91) dX2_goToNextMap_90 rfl rfl ?_
                  refine V.iload (q := 93) dX2_goToNextMap_91 rfl rfl ?_
                  refine V.iload (q := 95) dX2_goToNextMap_93 rfl rfl ?_
                  refine V.cvv2 (q := 98) dX2_goToNextMap_95 rfl kc_X2_217 rfl (by decide) rfl (hB.rm (by decide)) (Nat.le_of_ble_eq_true rfl) (p_swap hn6 hM3 (i := l) (j := h + 1) (by omega) (by omega)) (fun τ95 hp95 => ?_)
                  obtain ⟨hM4, hF4⟩ := hp95
                  refine V.inc4 (q := 101) dX2_goToNextMap_98 rfl (inc1 _) ?_
                  refine V.inc5 (q := 104) dX2_goToNextMap_101 rfl (dec1 _) ?_
                  refine V.goto (q := 83) dX2_goToNextMap_104 (by decide) ?_
                  have hrv2 : rvK f (swF b l (h + 1)) (l + 1) h = nxF n a k := by
                    rw [← hrv]; conv => rhs; unfold rvK
                    rw [if_pos c87]; rfl
                  exact ih3 f rfl (l + 1) h _ _ (by omega) (by omega) (by omega) hM4 (fun o ho => (hF4 o ho).trans (hF3 o ho)) hrv2 _
              exact loop3 n (k + 1) (n - 1) _ _ (by omega) (by omega) (Nat.le_refl _) hM2 hF2 rfl _
            · obtain ⟨g, rfl⟩ : ∃ q, g = q + 1 := ⟨g - 1, by omega⟩
              have h3 := hM (g + 1) (by omega)
              refine V.aload_n (q := 47) dX2_goToNextMap_46 rfl rfl ?_
              refine V.getR (q := 50) dX2_goToNextMap_47 rfl kf_X2_32 rfl (by decide) rfl ?_
              refine V.iload_n (q := 51) dX2_goToNextMap_50 rfl rfl ?_
              refine V.ialdN (q := 52) dX2_goToNextMap_51 rfl rfl (by decide) (by omega) (by decide) h3.1 ?_
              refine V.aload_n (q := 53) dX2_goToNextMap_52 rfl rfl ?_
              refine V.getR (q := 56) dX2_goToNextMap_53 rfl kf_X2_32 rfl (by decide) rfl ?_
              refine V.iload_n (q := 57) dX2_goToNextMap_56 rfl rfl ?_
              refine V.ialdN (q := 58) dX2_goToNextMap_57 rfl rfl (by decide) (by omega) (by decide) h1.1 ?_
              refine V.icmpN_ge (t := 67) (q := 61) dX2_goToNextMap_58 (by decide) rfl (by omega) (by omega) (fun c58 => ?_) (fun c58 => ?_)
              · have hge : grK a k (n - 1) = g + 1 := by
                  rw [← hgr]; unfold grK; rw [if_neg (by omega)]
                have hb := grK_b (a := a) (t := k) (g := n - 1) (by omega)
                rw [hge] at hb
                refine V.aload_n (q := 68) dX2_goToNextMap_67 rfl rfl ?_
                refine V.iload_n (q := 69) dX2_goToNextMap_68 rfl rfl ?_
                refine V.iload_n (q := 70) dX2_goToNextMap_69 rfl rfl ?_
                refine V.cvv2 (q := 73) dX2_goToNextMap_70 rfl kc_X2_217 rfl (by decide) rfl (hB.rm (by decide)) (Nat.le_of_ble_eq_true rfl) (p_swap hn6 hM (i := k) (j := g + 1) (by omega) (by omega)) (fun τ70 hp70 => ?_)
                obtain ⟨hM2, hF2⟩ := hp70
                rw [← hge] at hM2
                refine V.iload_n (q := 74) dX2_goToNextMap_73 rfl rfl ?_
                refine V.iconst (q := 75) (v := nI 1) dX2_goToNextMap_74 rfl (by decide +kernel) ?_
                refine V.iaddN (q := 76) dX2_goToNextMap_75 rfl ?_
                refine V.ist4 (q := 78) dX2_goToNextMap_76 rfl ?_
                refine V.iload_n (q := 79) dX2_goToNextMap_78 rfl rfl ?_
                refine V.iconst (q := 80) (v := nI 1) dX2_goToNextMap_79 rfl (by decide +kernel) ?_
                refine V.isubN (q := 81) dX2_goToNextMap_80 rfl (by omega) ?_
                refine V.ist5 (q := 83) dX2_goToNextMap_81 rfl ?_
                have loop3 : ∀ f l h b σ3, h ≤ l + f → l ≤ n → h ≤ n - 1 → MA σ3 n b → (∀ o, o ≠ 39 → σ3 o = σ o) → rvK f b l h = nxF n a k → ∀ o3, V x RX2 cX2_goToNextMap 6 83 [some (.ref 0), some (.int (nI n)), some (.int (nI k)), o3, some (.int (nI l)), some (.int (nI h))] [] σ3 := by
                  refine up0 (fun f ih3 l h b σ3 hlf hln hhn hM3 hF3 hrv o3 => ?_)
                  refine V.iload (q := 85) dX2_goToNextMap_83 rfl rfl ?_
                  refine V.iload (q := 87) dX2_goToNextMap_85 rfl rfl ?_
                  refine V.icmpN_ge (t := 107) (q := 90) dX2_goToNextMap_87 (by decide) rfl (by omega) (by omega) (fun c87 => ?_) (fun c87 => ?_)
                  · have hre : b = nxF n a k := by
                      rw [← hrv]
                      rcases f with _ | f
                      · rfl
                      · unfold rvK; rw [if_neg (by omega)]
                    refine V.iconst (q := 108) (v := nI 1) dX2_goToNextMap_107 rfl (by decide +kernel) ?_
                    exact V.ret_int hB dX2_goToNextMap_108 (by decide +kernel) ⟨_, rfl, Or.inr ⟨rfl, k, hso, by rw [← hre]; exact hM3, hF3⟩⟩
                  · obtain ⟨f, rfl⟩ : ∃ q, f = q + 1 := ⟨f - 1, by omega⟩
                    obtain ⟨h, rfl⟩ : ∃ q, h = q + 1 := ⟨h - 1, by omega⟩
                    refine V.aload_n (q := 91) dX2_goToNextMap_90 rfl rfl ?_
                    refine V.iload (q := 93) dX2_goToNextMap_91 rfl rfl ?_
                    refine V.iload (q := 95) dX2_goToNextMap_93 rfl rfl ?_
                    refine V.cvv2 (q := 98) dX2_goToNextMap_95 rfl kc_X2_217 rfl (by decide) rfl (hB.rm (by decide)) (Nat.le_of_ble_eq_true rfl) (p_swap hn6 hM3 (i := l) (j := h + 1) (by omega) (by omega)) (fun τ95 hp95 => ?_)
                    obtain ⟨hM4, hF4⟩ := hp95
                    refine V.inc4 (q := 101) dX2_goToNextMap_98 rfl (inc1 _) ?_
                    refine V.inc5 (q := 104) dX2_goToNextMap_101 rfl (dec1 _) ?_
                    refine V.goto (q := 83) dX2_goToNextMap_104 (by decide) ?_
                    have hrv2 : rvK f (swF b l (h + 1)) (l + 1) h = nxF n a k := by
                      rw [← hrv]; conv => rhs; unfold rvK
                      rw [if_pos c87]; rfl
                    exact ih3 f rfl (l + 1) h _ _ (by omega) (by omega) (by omega) hM4 (fun o ho => (hF4 o ho).trans (hF3 o ho)) hrv2 _
                exact loop3 n (k + 1) (n - 1) _ _ (by omega) (by omega) (Nat.le_refl _) hM2 hF2 rfl _
              · refine V.inc3 (q := 64) dX2_goToNextMap_61 rfl (dec1 _) ?_
                refine V.goto (q := 41) dX2_goToNextMap_64 (by decide) ?_
                have hgr2 : grK a k g = grK a k (n - 1) := by
                  rw [← hgr]; conv => rhs; unfold grK
                  rw [if_pos ⟨by omega, c58⟩]
                exact ih2 g rfl (by omega) (by omega) hgr2
          exact loop2 (n - 1) (by omega) (Nat.le_refl _) rfl
        · refine V.inc2 (q := 28) (v := nI k - nI 1) dX2_goToNextMap_25 rfl (dec_sub k) ?_
          refine V.goto (q := 4) dX2_goToNextMap_28 (by decide) ?_
          have htu2 : tuK a k = tuK a (n - 1) := by
            rw [← htu]; conv => rhs; unfold tuK
            rw [if_pos c22]
          exact ih k rfl (by omega) htu2
    exact loop (n - 1) (Nat.le_refl _) rfl

-- findBestMap(j)
set_option maxHeartbeats 4000000 in
set_option maxRecDepth 100000 in
theorem p_find {σ : Sg} {n y : Nat} {τ : Nat → Nat → Nat} {fl n2 y2 : Nat} {τ2 : Nat → Nat → Nat} {m : Nat} {cs : Nat → Nat} {rl : Nat} {ro rc : Nat → Nat} (hX : XR σ n y τ fl n2 y2 τ2 m cs rl ro rc) {j : Nat} (hj1 : 1 ≤ j) (hj2 : j ≤ 30) : Con 5 yX2_findBestMap cX2_findBestMap 6 (some .int) [.ref 0, .int (nI j)] σ (PI (fun r σ1 => r = nI (bmM n y τ j).1 ∧ (∀ k, k < n → σ1 40 k = nI (lf (bmM n y τ j).2 k)) ∧ Fs σ σ1)) := by
  refine Con.of (by decide) (by simp [Value.category]) (Nat.le_of_ble_eq_true rfl) (fun x hB => ?_)
  show V x RX2 cX2_findBestMap 6 0 [some (.ref 0), some (.int (nI j)), none, none, none, none] [] _
  have hN := hX.now
  have hn6 := hN.n6
  have hy9 := hX.y9
  refine V.iconst (q := 1) (v := nI 0) dX2_findBestMap_0 rfl (by decide +kernel) ?_
  refine V.ist2 (q := 2) dX2_findBestMap_1 rfl ?_
  have loop : ∀ i, i ≤ n → ∀ σ1, Fs σ σ1 → (∀ q, q < i → σ1 39 q = nI q) → V x RX2 cX2_findBestMap 6 2 [some (.ref 0), some (.int (nI j)), some (.int (nI i)), none, none, none] [] σ1 := by
    refine down n (fun i hi ih σ1 hF hid => ?_)
    have hN1 := (hX.fs hF).now
    refine V.iload_n (q := 3) dX2_findBestMap_2 rfl rfl ?_
    refine V.aload_n (q := 4) dX2_findBestMap_3 rfl rfl ?_
    refine V.getR (q := 7) dX2_findBestMap_4 rfl kf_X2_12 rfl (by decide) rfl ?_
    refine V.getIn (q := 10) dX2_findBestMap_7 rfl kf_X2_120 rfl (by decide) rfl (TA.n8 hN1) ?_
    refine V.icmpN_ge (t := 26) (q := 13) dX2_findBestMap_10 (by decide) rfl (by omega) (by omega) (fun c10 => ?_) (fun c10 => ?_)
    · have ei : i = n := by omega
      subst ei
      refine V.bipush (q := 28) (v := nI 55) dX2_findBestMap_26 rfl (by decide +kernel) ?_
      refine V.ist2 (q := 29) dX2_findBestMap_28 rfl ?_
      refine V.iconst (q := 30) (v := nI 1) dX2_findBestMap_29 rfl (by decide +kernel) ?_
      refine V.ist3 (q := 31) dX2_findBestMap_30 rfl ?_
      refine V.iconst (q := 32) (v := nI 0) dX2_findBestMap_31 rfl (by decide +kernel) ?_
      refine V.ist4 (q := 34) dX2_findBestMap_32 rfl ?_
      have hlen := PL_len hn6
      have loop2 : ∀ d, d ≤ (PL i).length → ∀ σ2, Fs σ σ2 → (∀ l, (PL i)[d]? = some l → MA σ2 i (lf l)) → ∀ s : Nat × List Nat, s = ((PL i).take d).foldl (bmS (bmG i y τ j)) (55, []) → s.1 ≤ 55 → (0 < d → ∀ q, q < i → σ2 40 q = nI (lf s.2 q)) → ∀ o5, V x RX2 cX2_findBestMap 6 34 [some (.ref 0), some (.int (nI j)), some (.int (nI s.1)), some (.int (nI (if d < (PL i).length then 1 else 0))), some (.int (nI d)), o5] [] σ2 := by
        refine down (PL i).length (fun d hd ih2 σ2 hF2 hM s es hs hb o5 => ?_)
        have hN2 := (hX.fs hF2).now
        refine V.iload (q := 36) dX2_findBestMap_34 rfl rfl ?_
        refine V.sipush (q := 39) (v := nI 720) dX2_findBestMap_36 rfl (by decide +kernel) ?_
        refine V.icmpN_ge (t := 127) (q := 42) dX2_findBestMap_39 (by decide) rfl (by omega) (by omega) (fun c39 => ?_) (fun c39 => ?_)
        · have ed : d = (PL i).length := by omega
          subst ed
          have hlp9 : 0 < (PL i).length := (List.getElem?_eq_some_iff.mp (PL_hd hn6)).1
          refine V.iload_n (q := 128) dX2_findBestMap_127 rfl rfl ?_
          exact V.ret_int hB dX2_findBestMap_128 rfl ⟨_, rfl, ⟨fin1 es, fin2 es (hb hlp9), hF2⟩⟩
        · refine V.iload_n (q := 43) dX2_findBestMap_42 rfl rfl ?_
          by_cases hdl : d < (PL i).length
          · rw [if_pos hdl]
            obtain ⟨l, hl⟩ : ∃ l, (PL i)[d]? = some l := ⟨_, List.getElem?_eq_getElem hdl⟩
            have hMl := hM l hl
            have hll := PL_in hn6 (List.mem_of_getElem? hl)
            refine V.ifN_eq (t := 127) (q := 46) dX2_findBestMap_43 (by decide) rfl (by omega) (fun c43 => absurd c43 (by decide +kernel)) (fun c43 => ?_)
            refine V.aload_n (q := 47) dX2_findBestMap_46 rfl rfl ?_
            refine V.getR (q := 50) dX2_findBestMap_47 rfl kf_X2_19 rfl (by decide) rfl ?_
            refine V.aload_n (q := 51) dX2_findBestMap_50 rfl rfl ?_
            refine V.getR (q := 54) dX2_findBestMap_51 rfl kf_X2_12 rfl (by decide) rfl ?_
            refine V.cvv1 (q := 57) dX2_findBestMap_54 rfl kc_X2_106 rfl (by decide) rfl (hB.rm (by decide)) (Nat.le_of_ble_eq_true rfl) (c_copyFrom t19 t1 (by decide) hN2) (fun τ54 hp54 => ?_)
            obtain ⟨hT3, hF3⟩ := hp54
            have hM3 : MA τ54 i (lf l) := fun q hq => by rw [hF3 39 (by decide)]; exact hMl q hq
            have hF4 := hF2.tr (Fs.of hF3 (Or.inl rfl))
            refine V.aload_n (q := 58) dX2_findBestMap_57 rfl rfl ?_
            refine V.getR (q := 61) dX2_findBestMap_58 rfl kf_X2_32 rfl (by decide) rfl ?_
            refine V.iconst (q := 62) (v := nI 0) dX2_findBestMap_61 rfl (by decide +kernel) ?_
            refine V.aload_n (q := 63) dX2_findBestMap_62 rfl rfl ?_
            refine V.getR (q := 66) dX2_findBestMap_63 rfl kf_X2_19 rfl (by decide) rfl ?_
            refine V.getRn (q := 69) dX2_findBestMap_66 rfl kf_X2_88 rfl (by decide) rfl ?_
            refine V.iconst (q := 70) (v := nI 0) dX2_findBestMap_69 rfl (by decide +kernel) ?_
            refine V.bipush (q := 72) (v := nI 6) dX2_findBestMap_70 rfl (by decide +kernel) ?_
            refine V.copy6 (q := 75) dX2_findBestMap_72 rfl kc_X2_208 (hB.rm (by decide)) (Nat.le_of_ble_eq_true rfl) rfl (by decide) rfl (by decide) ?_
            have hT4 := hT3.me hM3 hll.2
            have hF5 := hF4.so (o := 25) (f := fun k => if k < 6 then τ54 39 k else τ54 25 k) (by decide) (by decide) (by decide) (by decide)
            refine V.aload_n (q := 76) dX2_findBestMap_75 rfl rfl ?_
            refine V.getR (q := 79) dX2_findBestMap_76 rfl kf_X2_19 rfl (by decide) rfl ?_
            refine V.iload_n (q := 80) dX2_findBestMap_79 rfl rfl ?_
            refine V.cvi1 (q := 83) dX2_findBestMap_80 rfl kc_X2_110 rfl (by decide) rfl (hB.rm (by decide)) (Nat.le_of_ble_eq_true rfl) (c_mudBehind t19 hT4 (k := j) (by have := hX.y9; omega)) (fun r80 τ80 hp80 => ?_)
            obtain ⟨rfl, hT6, hF6⟩ := hp80
            have hF7 := hF5.tr (Fs.of hF6 (Or.inl rfl))
            have hb7 := sumK_b hT6.w hn6
            have hM7 : MA τ80 i (lf l) := fun q hq => by rw [hF6 39 (by decide), so_ne (by decide)]; exact hM3 q hq
            have h40 : τ80 40 = σ2 40 := by rw [hF6 40 (by decide), so_ne (by decide), hF3 40 (by decide)]
            have hN7 := (hX.fs hF7).now
            refine V.ist5 (q := 85) dX2_findBestMap_83 rfl ?_
            refine V.iload (q := 87) dX2_findBestMap_85 rfl rfl ?_
            refine V.iload_n (q := 88) dX2_findBestMap_87 rfl rfl ?_
            refine V.icmpN_ge (t := 109) (q := 91) dX2_findBestMap_88 (by decide) rfl (by omega) (by omega) (fun c88 => ?_) (fun c88 => ?_)
            · have hs8 : s = ((PL i).take (d + 1)).foldl (bmS (bmG i y τ j)) (55, []) := by
                rw [take_one hl, List.foldl_append, ← es]
                show s = bmS (bmG i y τ j) s l
                unfold bmS; rw [if_neg (show ¬ bmG i y τ j l < s.1 from Nat.not_lt.mpr c88)]
              have hd0 : 0 < d := by
                rcases Nat.eq_zero_or_pos d with h9 | h9
                · subst h9
                  have : s.1 = 55 := by rw [es]; rfl
                  omega
                · exact h9
              have h48 : ∀ q, q < i → τ80 40 q = nI (lf s.2 q) := fun q hq => by rw [h40]; exact hb hd0 q hq
              refine V.aload_n (q := 110) dX2_findBestMap_109 rfl rfl ?_
              refine V.aload_n (q := 111) dX2_findBestMap_110 rfl rfl ?_
              refine V.getR (q := 114) dX2_findBestMap_111 rfl kf_X2_12 rfl (by decide) rfl ?_
              refine V.getIn (q := 117) dX2_findBestMap_114 rfl kf_X2_120 rfl (by decide) rfl (TA.n8 hN7) ?_
              refine V.cvi1 (q := 120) dX2_findBestMap_117 rfl kc_X2_214 rfl (by decide) rfl (hB.rm (by decide)) (Nat.le_of_ble_eq_true rfl) (p_next hn6 hM7) (fun r117 τ117 hp117 => ?_)
              skip
              have hn9 := PL_chk hn6 hl
              rcases hp117 with ⟨rfl, hz, htu⟩ | ⟨rfl, t, htu, hM9, hF9⟩
              · rw [hz]
                have hF10 := hF7
                have hdn : ¬ d + 1 < (PL i).length := fun h9 => by
                  unfold nextl at hn9; rw [htu, List.getElem?_eq_getElem h9] at hn9; cases hn9
                have hM10 : ∀ l2, (PL i)[d + 1]? = some l2 → MA τ80 i (lf l2) := fun l2 h9 => absurd (List.getElem?_eq_some_iff.mp h9).1 hdn
                have h410 := h48
                refine V.ist3 (q := 121) dX2_findBestMap_120 rfl ?_
                refine V.inc4 (q := 124) dX2_findBestMap_121 rfl (inc1 _) ?_
                refine V.goto (q := 34) dX2_findBestMap_124 (by decide) ?_
                have h7 := ih2 hdl _ hF10 hM10 s hs8 hs (fun _ => h410)
                rw [if_neg hdn] at h7
                exact h7 _
              · have hF10 : Fs σ τ117 := fun o ho => by
                  rw [hF9 o (by omega)]; exact hF7 o ho
                have hdn : d + 1 < (PL i).length := by
                  rcases Nat.lt_or_ge (d + 1) (PL i).length with h9 | h9
                  · exact h9
                  · unfold nextl at hn9; rw [htu, List.getElem?_eq_none h9] at hn9; cases hn9
                have hM10 : ∀ l2, (PL i)[d + 1]? = some l2 → MA τ117 i (lf l2) := fun l2 h9 q hq => by
                  rw [h9] at hn9; unfold nextl at hn9; rw [htu] at hn9
                  have h8 := Option.some.inj hn9
                  rw [← h8, lf_map hq]; exact hM9 q hq
                have h410 : ∀ q, q < i → τ117 40 q = nI (lf s.2 q) := fun q hq => by rw [hF9 40 (by decide)]; exact h48 q hq
                refine V.ist3 (q := 121) dX2_findBestMap_120 rfl ?_
                refine V.inc4 (q := 124) dX2_findBestMap_121 rfl (inc1 _) ?_
                refine V.goto (q := 34) dX2_findBestMap_124 (by decide) ?_
                have h7 := ih2 hdl _ hF10 hM10 s hs8 hs (fun _ => h410)
                rw [if_pos hdn] at h7
                exact h7 _
            · have hs8 : (bmG i y τ j l, l) = ((PL i).take (d + 1)).foldl (bmS (bmG i y τ j)) (55, []) := by
                rw [take_one hl, List.foldl_append, ← es]
                show _ = bmS (bmG i y τ j) s l
                unfold bmS; rw [if_pos (show bmG i y τ j l < s.1 from c88)]
              refine V.iload (q := 93) dX2_findBestMap_91 rfl rfl ?_
              refine V.ist2 (q := 94) dX2_findBestMap_93 rfl ?_
              refine V.aload_n (q := 95) dX2_findBestMap_94 rfl rfl ?_
              refine V.getR (q := 98) dX2_findBestMap_95 rfl kf_X2_32 rfl (by decide) rfl ?_
              refine V.iconst (q := 99) (v := nI 0) dX2_findBestMap_98 rfl (by decide +kernel) ?_
              refine V.aload_n (q := 100) dX2_findBestMap_99 rfl rfl ?_
              refine V.getR (q := 103) dX2_findBestMap_100 rfl kf_X2_36 rfl (by decide) rfl ?_
              refine V.iconst (q := 104) (v := nI 0) dX2_findBestMap_103 rfl (by decide +kernel) ?_
              refine V.bipush (q := 106) (v := nI 6) dX2_findBestMap_104 rfl (by decide +kernel) ?_
              refine V.copy6 (q := 109) dX2_findBestMap_106 rfl kc_X2_208 (hB.rm (by decide)) (Nat.le_of_ble_eq_true rfl) rfl (by decide) rfl (by decide) ?_
              have h48 : ∀ q, q < i → so τ80 40 (fun k => if k < 6 then τ80 39 k else τ80 40 k) 40 q = nI (lf l q) := fun q hq => by
                rw [so_at, if_pos (by omega)]; exact (hM7 q hq).1
              have hM8 : MA (so τ80 40 (fun k => if k < 6 then τ80 39 k else τ80 40 k)) i (lf l) := fun q hq => by rw [so_ne (by decide)]; exact hM7 q hq
              have hF8 := hF7.so (o := 40) (f := fun k => if k < 6 then τ80 39 k else τ80 40 k) (by decide) (by decide) (by decide) (by decide)
              have hN8 := (hX.fs hF8).now
              refine V.aload_n (q := 110) dX2_findBestMap_109 rfl rfl ?_
              refine V.aload_n (q := 111) dX2_findBestMap_110 rfl rfl ?_
              refine V.getR (q := 114) dX2_findBestMap_111 rfl kf_X2_12 rfl (by decide) rfl ?_
              refine V.getIn (q := 117) dX2_findBestMap_114 rfl kf_X2_120 rfl (by decide) rfl (TA.n8 hN8) ?_
              refine V.cvi1 (q := 120) dX2_findBestMap_117 rfl kc_X2_214 rfl (by decide) rfl (hB.rm (by decide)) (Nat.le_of_ble_eq_true rfl) (p_next hn6 hM8) (fun r117 τ117 hp117 => ?_)
              skip
              have hn9 := PL_chk hn6 hl
              rcases hp117 with ⟨rfl, hz, htu⟩ | ⟨rfl, t, htu, hM9, hF9⟩
              · rw [hz]
                have hF10 := hF8
                have hdn : ¬ d + 1 < (PL i).length := fun h9 => by
                  unfold nextl at hn9; rw [htu, List.getElem?_eq_getElem h9] at hn9; cases hn9
                have hM10 : ∀ l2, (PL i)[d + 1]? = some l2 → MA (so τ80 40 (fun k => if k < 6 then τ80 39 k else τ80 40 k)) i (lf l2) := fun l2 h9 => absurd (List.getElem?_eq_some_iff.mp h9).1 hdn
                have h410 := h48
                refine V.ist3 (q := 121) dX2_findBestMap_120 rfl ?_
                refine V.inc4 (q := 124) dX2_findBestMap_121 rfl (inc1 _) ?_
                refine V.goto (q := 34) dX2_findBestMap_124 (by decide) ?_
                have h7 := ih2 hdl _ hF10 hM10 (bmG i y τ j l, l) hs8 (by show bmG i y τ j l ≤ 55; have : bmG i y τ j l ≤ 54 := hb7; omega) (fun _ => h410)
                rw [if_neg hdn] at h7
                exact h7 _
              · have hF10 : Fs σ τ117 := fun o ho => by
                  rw [hF9 o (by omega)]; exact hF8 o ho
                have hdn : d + 1 < (PL i).length := by
                  rcases Nat.lt_or_ge (d + 1) (PL i).length with h9 | h9
                  · exact h9
                  · unfold nextl at hn9; rw [htu, List.getElem?_eq_none h9] at hn9; cases hn9
                have hM10 : ∀ l2, (PL i)[d + 1]? = some l2 → MA τ117 i (lf l2) := fun l2 h9 q hq => by
                  rw [h9] at hn9; unfold nextl at hn9; rw [htu] at hn9
                  have h8 := Option.some.inj hn9
                  rw [← h8, lf_map hq]; exact hM9 q hq
                have h410 : ∀ q, q < i → τ117 40 q = nI (lf l q) := fun q hq => by rw [hF9 40 (by decide)]; exact h48 q hq
                refine V.ist3 (q := 121) dX2_findBestMap_120 rfl ?_
                refine V.inc4 (q := 124) dX2_findBestMap_121 rfl (inc1 _) ?_
                refine V.goto (q := 34) dX2_findBestMap_124 (by decide) ?_
                have h7 := ih2 hdl _ hF10 hM10 (bmG i y τ j l, l) hs8 (by show bmG i y τ j l ≤ 55; have : bmG i y τ j l ≤ 54 := hb7; omega) (fun _ => h410)
                rw [if_pos hdn] at h7
                exact h7 _
          · rw [if_neg hdl]
            have ed : d = (PL i).length := by omega
            subst ed
            refine V.ifN_eq (t := 127) (q := 46) dX2_findBestMap_43 (by decide) rfl (by omega) (fun c43 => ?_) (fun c43 => absurd c43 (by decide +kernel))
            have hlp9 : 0 < (PL i).length := (List.getElem?_eq_some_iff.mp (PL_hd hn6)).1
            refine V.iload_n (q := 128) dX2_findBestMap_127 rfl rfl ?_
            exact V.ret_int hB dX2_findBestMap_128 rfl ⟨_, rfl, ⟨fin1 es, fin2 es (hb hlp9), hF2⟩⟩
      have h0 := PL_hd hn6
      have hlp : 0 < (PL i).length := (List.getElem?_eq_some_iff.mp h0).1
      have h1 := loop2 0 (Nat.zero_le _) σ1 hF (fun l hl => by
        rw [h0] at hl
        have hl2 := Option.some.inj hl
        subst hl2
        intro q hq
        rw [lf_range hq]; exact ⟨hid q hq, by omega⟩) (55, []) rfl (Nat.le_refl _) (fun h9 => absurd h9 (by omega)) none
      rw [if_pos hlp] at h1
      exact h1
    · refine V.aload_n (q := 14) dX2_findBestMap_13 rfl rfl ?_
      refine V.getR (q := 17) dX2_findBestMap_14 rfl kf_X2_32 rfl (by decide) rfl ?_
      refine V.iload_n (q := 18) dX2_findBestMap_17 rfl rfl ?_
      refine V.iload_n (q := 19) dX2_findBestMap_18 rfl rfl ?_
      refine V.iastN (q := 20) dX2_findBestMap_19 rfl rfl (by decide) (by omega) (by decide) ?_
      refine V.inc2 (q := 23) dX2_findBestMap_20 rfl (inc1 _) ?_
      refine V.goto (q := 2) dX2_findBestMap_23 (by decide) ?_
      refine ih c10 _ (hF.w (by decide) (by decide) (by decide) (by decide)) (fun q hq => ?_)
      rw [w2_rd]
      by_cases h9 : q = i
      · subst h9; rw [if_pos ⟨rfl, rfl⟩]
      · rw [if_neg (fun h8 => h9 h8.2)]; exact hid q (by omega)
  exact loop 0 (Nat.zero_le _) σ Fs.rf (fun q hq => absurd hq (by omega))

-- bestMap
set_option maxHeartbeats 4000000 in
set_option maxRecDepth 100000 in
theorem p_best {σ : Sg} {n y : Nat} {τ : Nat → Nat → Nat} {fl n2 y2 : Nat} {τ2 : Nat → Nat → Nat} {m : Nat} {cs : Nat → Nat} {rl : Nat} {ro rc : Nat → Nat} (hX : XR σ n y τ fl n2 y2 τ2 m cs rl ro rc) (v : Int32) (w : Int32) : Con 6 yX2_bestMap cX2_bestMap 5 (some .int) [.ref 0, .int v, .int w] σ (PI (XP σ n y τ fl n2 y2 τ2 m cs rl ro rc (q_best n y τ v w))) := by
  refine Con.of (by decide) (by simp [Value.category]) (Nat.le_of_ble_eq_true rfl) (fun x hB => ?_)
  show V x RX2 cX2_bestMap 5 0 [some (.ref 0), some (.int v), some (.int w), none, none] [] _
  have hN := hX.now
  have hn6 := hN.n6
  have hy9 := hX.y9
  refine V.iload_n (q := 1) dX2_bestMap_0 rfl rfl ?_
  refine V.iconst (q := 2) (v := (-1)) dX2_bestMap_1 rfl (by decide +kernel) ?_
  refine V.icmp_eq (t := 16) (q := 5) dX2_bestMap_2 (by decide) rfl  (fun c2 => ?_) (fun c2 => ?_)
  · subst c2
    refine V.iconst (q := 17) (v := nI 1) dX2_bestMap_16 rfl (by decide +kernel) ?_
    refine V.goto (q := 21) dX2_bestMap_17 (by decide) ?_
    refine V.iload_n (q := 22) dX2_bestMap_21 rfl rfl ?_
    refine V.iconst (q := 23) (v := nI 1) dX2_bestMap_22 rfl (by decide +kernel) ?_
    refine V.bipush (q := 25) (v := nI 30) dX2_bestMap_23 rfl (by decide +kernel) ?_
    refine V.csi4 (q := 28) dX2_bestMap_25 rfl kc_X2_45 (hB.rm (by decide)) (Nat.le_of_ble_eq_true rfl) (p_rof v 1 30 (by decide) (by decide)) (fun r25 τ25 hp25 => ?_)
    obtain ⟨hz, ⟨hrf, rfl⟩ | ⟨hrf, rfl⟩ | ⟨rfl, j, hj1, hj2, rfl⟩⟩ := hp25
    · rw [hz]
      refine V.ist3 (q := 29) dX2_bestMap_28 rfl ?_
      refine V.iload_n (q := 30) dX2_bestMap_29 rfl rfl ?_
      refine V.if_eq (t := 39) (q := 33) dX2_bestMap_30 (by decide) rfl  (fun c30 => absurd c30 (by decide +kernel)) (fun c30 => ?_)
      refine V.aload_n (q := 34) dX2_bestMap_33 rfl rfl ?_
      refine V.iload_n (q := 35) dX2_bestMap_34 rfl rfl ?_
      refine V.cvi1 (q := 38) dX2_bestMap_35 rfl kc_X2_53 rfl (by decide) rfl (hB.rm (by decide)) (Nat.le_of_ble_eq_true rfl) (p_refuse hX (k := 4) (v := -4) (by decide) (by decide) (by decide +kernel)) (fun r35 τ35 hp35 => ?_)
      obtain ⟨rfl, hz⟩ := hp35
      rw [hz]
      exact V.ret_int hB dX2_bestMap_38 rfl ⟨_, rfl, XP.no hX (by simp [q_best, rfq_4 hrf]) (by decide) (by decide +kernel)⟩
    · rw [hz]
      refine V.ist3 (q := 29) dX2_bestMap_28 rfl ?_
      refine V.iload_n (q := 30) dX2_bestMap_29 rfl rfl ?_
      refine V.if_eq (t := 39) (q := 33) dX2_bestMap_30 (by decide) rfl  (fun c30 => absurd c30 (by decide +kernel)) (fun c30 => ?_)
      refine V.aload_n (q := 34) dX2_bestMap_33 rfl rfl ?_
      refine V.iload_n (q := 35) dX2_bestMap_34 rfl rfl ?_
      refine V.cvi1 (q := 38) dX2_bestMap_35 rfl kc_X2_53 rfl (by decide) rfl (hB.rm (by decide)) (Nat.le_of_ble_eq_true rfl) (p_refuse hX (k := 6) (v := -6) (by decide) (by decide) (by decide +kernel)) (fun r35 τ35 hp35 => ?_)
      obtain ⟨rfl, hz⟩ := hp35
      rw [hz]
      exact V.ret_int hB dX2_bestMap_38 rfl ⟨_, rfl, XP.no hX (by simp [q_best, rfq_6 hrf]) (by decide) (by decide +kernel)⟩
    · rw [hz]
      refine V.ist3 (q := 29) dX2_bestMap_28 rfl ?_
      refine V.iload_n (q := 30) dX2_bestMap_29 rfl rfl ?_
      refine V.ifN_eq (t := 39) (q := 33) dX2_bestMap_30 (by decide) rfl (by omega) (fun c30 => ?_) (fun c30 => absurd c30 (by decide +kernel))
      refine V.aload_n (q := 40) dX2_bestMap_39 rfl rfl ?_
      refine V.iload_n (q := 41) dX2_bestMap_40 rfl rfl ?_
      refine V.cvi1 (q := 44) dX2_bestMap_41 rfl kc_X2_136 rfl (by decide) rfl (hB.rm (by decide)) (Nat.le_of_ble_eq_true rfl) (p_find hX (j := j) hj1 hj2) (fun r41 τ41 hp41 => ?_)
      obtain ⟨rfl, h40, hF2⟩ := hp41
      have hN2 := (hX.fs hF2).now
      refine V.ist4 (q := 46) dX2_bestMap_44 rfl ?_
      refine V.aload_n (q := 47) dX2_bestMap_46 rfl rfl ?_
      refine V.getR (q := 50) dX2_bestMap_47 rfl kf_X2_12 rfl (by decide) rfl ?_
      refine V.iload_n (q := 51) dX2_bestMap_50 rfl rfl ?_
      refine V.cvi1 (q := 54) dX2_bestMap_51 rfl kc_X2_69 rfl (by decide) rfl (hB.rm (by decide)) (Nat.le_of_ble_eq_true rfl) (c_isS0 t1 hN2.n6 hN2.n8 (v := -1) (sN_m1 n (by omega))) (fun r51 τ51 hp51 => ?_)
      obtain ⟨rfl, hz⟩ := hp51
      rw [hz]
      refine V.ifN_eq (t := 66) (q := 57) dX2_bestMap_54 (by decide) rfl (by omega) (fun c54 => ?_) (fun c54 => absurd c54 (by decide +kernel))
      refine V.iload (q := 68) dX2_bestMap_66 rfl rfl ?_
      exact V.ret_int hB dX2_bestMap_68 rfl ⟨_, rfl, XP.yes hX (hF2) (by simp [q_best, rfq_in hj1 hj2 (show 30 < 2 ^ 20 by decide), tn_nI (show j < 2 ^ 31 by omega)])⟩
  · refine V.aload_n (q := 6) dX2_bestMap_5 rfl rfl ?_
    refine V.getR (q := 9) dX2_bestMap_6 rfl kf_X2_12 rfl (by decide) rfl ?_
    refine V.iload_n (q := 10) dX2_bestMap_9 rfl rfl ?_
    refine V.cvi1 (q := 13) dX2_bestMap_10 rfl kc_X2_69 rfl (by decide) rfl (hB.rm (by decide)) (Nat.le_of_ble_eq_true rfl) (c_isStreet t1 hN w) (fun r10 τ10 hp10 => ?_)
    obtain ⟨hz, ⟨rfl, k, hk, rfl⟩ | ⟨rfl, hsk⟩⟩ := hp10
    · rw [hz]
      refine V.ifN_eq (t := 20) (q := 16) dX2_bestMap_13 (by decide) rfl (by omega) (fun c13 => absurd c13 (by decide +kernel)) (fun c13 => ?_)
      refine V.iconst (q := 17) (v := nI 1) dX2_bestMap_16 rfl (by decide +kernel) ?_
      refine V.goto (q := 21) dX2_bestMap_17 (by decide) ?_
      refine V.iload_n (q := 22) dX2_bestMap_21 rfl rfl ?_
      refine V.iconst (q := 23) (v := nI 1) dX2_bestMap_22 rfl (by decide +kernel) ?_
      refine V.bipush (q := 25) (v := nI 30) dX2_bestMap_23 rfl (by decide +kernel) ?_
      refine V.csi4 (q := 28) dX2_bestMap_25 rfl kc_X2_45 (hB.rm (by decide)) (Nat.le_of_ble_eq_true rfl) (p_rof v 1 30 (by decide) (by decide)) (fun r25 τ25 hp25 => ?_)
      obtain ⟨hz, ⟨hrf, rfl⟩ | ⟨hrf, rfl⟩ | ⟨rfl, j, hj1, hj2, rfl⟩⟩ := hp25
      · rw [hz]
        refine V.ist3 (q := 29) dX2_bestMap_28 rfl ?_
        refine V.iload_n (q := 30) dX2_bestMap_29 rfl rfl ?_
        refine V.if_eq (t := 39) (q := 33) dX2_bestMap_30 (by decide) rfl  (fun c30 => absurd c30 (by decide +kernel)) (fun c30 => ?_)
        refine V.aload_n (q := 34) dX2_bestMap_33 rfl rfl ?_
        refine V.iload_n (q := 35) dX2_bestMap_34 rfl rfl ?_
        refine V.cvi1 (q := 38) dX2_bestMap_35 rfl kc_X2_53 rfl (by decide) rfl (hB.rm (by decide)) (Nat.le_of_ble_eq_true rfl) (p_refuse hX (k := 4) (v := -4) (by decide) (by decide) (by decide +kernel)) (fun r35 τ35 hp35 => ?_)
        obtain ⟨rfl, hz⟩ := hp35
        rw [hz]
        exact V.ret_int hB dX2_bestMap_38 rfl ⟨_, rfl, XP.no hX (by simp [q_best, nI_m1 (show k < 2 ^ 31 by omega), stN_some hk (Nat.le_trans hn6 (by decide)), rfq_4 hrf]) (by decide) (by decide +kernel)⟩
      · rw [hz]
        refine V.ist3 (q := 29) dX2_bestMap_28 rfl ?_
        refine V.iload_n (q := 30) dX2_bestMap_29 rfl rfl ?_
        refine V.if_eq (t := 39) (q := 33) dX2_bestMap_30 (by decide) rfl  (fun c30 => absurd c30 (by decide +kernel)) (fun c30 => ?_)
        refine V.aload_n (q := 34) dX2_bestMap_33 rfl rfl ?_
        refine V.iload_n (q := 35) dX2_bestMap_34 rfl rfl ?_
        refine V.cvi1 (q := 38) dX2_bestMap_35 rfl kc_X2_53 rfl (by decide) rfl (hB.rm (by decide)) (Nat.le_of_ble_eq_true rfl) (p_refuse hX (k := 6) (v := -6) (by decide) (by decide) (by decide +kernel)) (fun r35 τ35 hp35 => ?_)
        obtain ⟨rfl, hz⟩ := hp35
        rw [hz]
        exact V.ret_int hB dX2_bestMap_38 rfl ⟨_, rfl, XP.no hX (by simp [q_best, nI_m1 (show k < 2 ^ 31 by omega), stN_some hk (Nat.le_trans hn6 (by decide)), rfq_6 hrf]) (by decide) (by decide +kernel)⟩
      · rw [hz]
        refine V.ist3 (q := 29) dX2_bestMap_28 rfl ?_
        refine V.iload_n (q := 30) dX2_bestMap_29 rfl rfl ?_
        refine V.ifN_eq (t := 39) (q := 33) dX2_bestMap_30 (by decide) rfl (by omega) (fun c30 => ?_) (fun c30 => absurd c30 (by decide +kernel))
        refine V.aload_n (q := 40) dX2_bestMap_39 rfl rfl ?_
        refine V.iload_n (q := 41) dX2_bestMap_40 rfl rfl ?_
        refine V.cvi1 (q := 44) dX2_bestMap_41 rfl kc_X2_136 rfl (by decide) rfl (hB.rm (by decide)) (Nat.le_of_ble_eq_true rfl) (p_find hX (j := j) hj1 hj2) (fun r41 τ41 hp41 => ?_)
        obtain ⟨rfl, h40, hF2⟩ := hp41
        have hN2 := (hX.fs hF2).now
        refine V.ist4 (q := 46) dX2_bestMap_44 rfl ?_
        refine V.aload_n (q := 47) dX2_bestMap_46 rfl rfl ?_
        refine V.getR (q := 50) dX2_bestMap_47 rfl kf_X2_12 rfl (by decide) rfl ?_
        refine V.iload_n (q := 51) dX2_bestMap_50 rfl rfl ?_
        refine V.cvi1 (q := 54) dX2_bestMap_51 rfl kc_X2_69 rfl (by decide) rfl (hB.rm (by decide)) (Nat.le_of_ble_eq_true rfl) (c_isS1 t1 hN2 hk) (fun r51 τ51 hp51 => ?_)
        obtain ⟨rfl, hz⟩ := hp51
        rw [hz]
        refine V.ifN_eq (t := 66) (q := 57) dX2_bestMap_54 (by decide) rfl (by omega) (fun c54 => absurd c54 (by decide +kernel)) (fun c54 => ?_)
        refine V.aload_n (q := 58) dX2_bestMap_57 rfl rfl ?_
        refine V.getR (q := 61) dX2_bestMap_58 rfl kf_X2_36 rfl (by decide) rfl ?_
        refine V.iload_n (q := 62) dX2_bestMap_61 rfl rfl ?_
        refine V.ialdN (q := 63) dX2_bestMap_62 rfl rfl (by decide) (by omega) (by decide) (h40 k hk) ?_
        refine V.goto (q := 68) dX2_bestMap_63 (by decide) ?_
        exact V.ret_int hB dX2_bestMap_68 rfl ⟨_, rfl, XP.yes hX (hF2) (by simp [q_best, nI_m1 (show k < 2 ^ 31 by omega), stN_some hk (Nat.le_trans hn6 (by decide)), rfq_in hj1 hj2 (show 30 < 2 ^ 20 by decide), tn_nI (show j < 2 ^ 31 by omega)])⟩
    · rw [hz]
      refine V.ifN_eq (t := 20) (q := 16) dX2_bestMap_13 (by decide) rfl (by omega) (fun c13 => ?_) (fun c13 => absurd c13 (by decide +kernel))
      refine V.iconst (q := 21) (v := nI 0) dX2_bestMap_20 rfl (by decide +kernel) ?_
      refine V.iload_n (q := 22) dX2_bestMap_21 rfl rfl ?_
      refine V.iconst (q := 23) (v := nI 1) dX2_bestMap_22 rfl (by decide +kernel) ?_
      refine V.bipush (q := 25) (v := nI 30) dX2_bestMap_23 rfl (by decide +kernel) ?_
      refine V.csi4 (q := 28) dX2_bestMap_25 rfl kc_X2_45 (hB.rm (by decide)) (Nat.le_of_ble_eq_true rfl) (p_rof0) (fun r25 τ25 hp25 => ?_)
      obtain ⟨rfl, hz⟩ := hp25
      rw [hz]
      refine V.ist3 (q := 29) dX2_bestMap_28 rfl ?_
      refine V.iload_n (q := 30) dX2_bestMap_29 rfl rfl ?_
      refine V.if_eq (t := 39) (q := 33) dX2_bestMap_30 (by decide) rfl  (fun c30 => absurd c30 (by decide +kernel)) (fun c30 => ?_)
      refine V.aload_n (q := 34) dX2_bestMap_33 rfl rfl ?_
      refine V.iload_n (q := 35) dX2_bestMap_34 rfl rfl ?_
      refine V.cvi1 (q := 38) dX2_bestMap_35 rfl kc_X2_53 rfl (by decide) rfl (hB.rm (by decide)) (Nat.le_of_ble_eq_true rfl) (p_refuse hX (k := 1) (v := -1) (by decide) (by decide) (by decide +kernel)) (fun r35 τ35 hp35 => ?_)
      obtain ⟨rfl, hz⟩ := hp35
      rw [hz]
      exact V.ret_int hB dX2_bestMap_38 rfl ⟨_, rfl, XP.no hX (by simp [q_best, c2, stN_none hsk]) (by decide) (by decide +kernel)⟩

