-- refuse(-k), refusalOf(..)
theorem neg_neg32 (v : Int32) : - -v = v := by simp
theorem rof_in {v : Int32} {a c : Nat} (h1 : nI a ≤ v) (h2 : v ≤ nI c) (hac : a ≤ c) (hc : c < 2 ^ 20) : ∃ j, a ≤ j ∧ j ≤ c ∧ v = nI j := by
  have h0 : ¬ v < 0 := fun h9 => by
    have h8 := Int32.le_iff_toInt_le.mp h1
    have h7 := Int32.lt_iff_toInt_lt.mp h9
    rw [nI_toInt (by omega)] at h8
    have h6 : (0 : Int32).toInt = 0 := by decide
    omega
  obtain ⟨j, hj, rfl⟩ := nI_of h0
  exact ⟨j, (nI_leI (by omega) hj).mp h1, (nI_leI hj (by omega)).mp h2, rfl⟩
set_option maxHeartbeats 4000000 in
set_option maxRecDepth 100000 in
theorem p_refuse {σ : Sg} {n y : Nat} {τ : Nat → Nat → Nat} {fl n2 y2 : Nat} {τ2 : Nat → Nat → Nat} {m : Nat} {cs : Nat → Nat} {rl : Nat} {ro rc : Nat → Nat} (hX : XR σ n y τ fl n2 y2 τ2 m cs rl ro rc) {k : Nat} (h1 : 1 ≤ k) (h6 : k ≤ 6) {v : Int32} (hv : v = -(nI k)) : Con 1 yX2_refuse cX2_refuse 3 (some .int) [.ref 0, .int v] σ (PI (fun r σ1 => r = v ∧ σ1 = w2 σ 42 k (nI (rc k + 1)))) := by
  refine Con.of (by decide) (by simp [Value.category]) (Nat.le_of_ble_eq_true rfl) (fun x hB => ?_)
  show V x RX2 cX2_refuse 3 0 [some (.ref 0), some (.int v), none] [] _
  refine V.iload_n (q := 1) dX2_refuse_0 rfl rfl ?_
  refine V.ineg (q := 2) dX2_refuse_1 rfl ?_
  rw [show -v = nI k by rw [hv]; exact neg_neg32 _]
  refine V.ist2 (q := 3) dX2_refuse_2 rfl ?_
  refine V.iload_n (q := 4) dX2_refuse_3 rfl rfl ?_
  refine V.iconst (q := 5) (v := nI 1) dX2_refuse_4 rfl (by decide +kernel) ?_
  refine V.icmpN_lt (t := 24) (q := 8) dX2_refuse_5 (by decide) rfl (by omega) (by omega) (fun c5 => absurd c5 (by omega)) (fun c5 => ?_)
  refine V.iload_n (q := 9) dX2_refuse_8 rfl rfl ?_
  refine V.bipush (q := 11) (v := nI 6) dX2_refuse_9 rfl (by decide +kernel) ?_
  refine V.icmpN_gt (t := 24) (q := 14) dX2_refuse_11 (by decide) rfl (by omega) (by omega) (fun c11 => absurd c11 (by omega)) (fun c11 => ?_)
  refine V.aload_n (q := 15) dX2_refuse_14 rfl rfl ?_
  refine V.getR (q := 18) dX2_refuse_15 rfl kf_X2_42 rfl (by decide) rfl ?_
  refine V.iload_n (q := 19) dX2_refuse_18 rfl rfl ?_
  refine V.dup2 (q := 20) dX2_refuse_19 rfl rfl rfl ?_
  refine V.ialdN (q := 21) dX2_refuse_20 rfl rfl (by decide) (by omega) (by decide) (hX.rc0 h1 h6) ?_
  refine V.iconst (q := 22) (v := nI 1) dX2_refuse_21 rfl (by decide +kernel) ?_
  refine V.iaddN (q := 23) dX2_refuse_22 rfl ?_
  refine V.iastN (q := 24) dX2_refuse_23 rfl rfl (by decide) (by omega) (by decide) ?_
  refine V.iload_n (q := 25) dX2_refuse_24 rfl rfl ?_
  exact V.ret_int hB dX2_refuse_25 rfl ⟨_, rfl, ⟨rfl, rfl⟩⟩

set_option maxHeartbeats 4000000 in
set_option maxRecDepth 100000 in
theorem p_rof0 {σ : Sg} {v a c : Int32} : Con 1 yX2_refusalOf cX2_refusalOf 4 (some .int) [.int (nI 0), .int v, .int a, .int c] σ (PI (fun r σ1 => r = -1 ∧ σ1 = σ)) := by
  refine Con.of (by decide) (by simp [Value.category]) (Nat.le_of_ble_eq_true rfl) (fun x hB => ?_)
  show V x RX2 cX2_refusalOf 4 0 [some (.int (nI 0)), some (.int v), some (.int a), some (.int c)] [] _
  refine V.iload_n (q := 1) dX2_refusalOf_0 rfl rfl ?_
  refine V.ifN_ne (t := 6) (q := 4) dX2_refusalOf_1 (by decide) rfl (by omega) (fun c1 => absurd c1 (by decide +kernel)) (fun c1 => ?_)
  refine V.iconst (q := 5) (v := (-1)) dX2_refusalOf_4 rfl (by decide +kernel) ?_
  exact V.ret_int hB dX2_refusalOf_5 rfl ⟨_, rfl, ⟨rfl, rfl⟩⟩

set_option maxHeartbeats 4000000 in
set_option maxRecDepth 100000 in
theorem p_rof {σ : Sg} (v : Int32) (a c : Nat) (hac : a ≤ c) (hc : c < 2 ^ 20) : Con 1 yX2_refusalOf cX2_refusalOf 4 (some .int) [.int (nI 1), .int v, .int (nI a), .int (nI c)] σ (PI (fun r σ1 => σ1 = σ ∧ ((rfN v a c = 4 ∧ r = -4) ∨ (rfN v a c = 6 ∧ r = -6) ∨ (r = nI 0 ∧ ∃ j, a ≤ j ∧ j ≤ c ∧ v = nI j)))) := by
  refine Con.of (by decide) (by simp [Value.category]) (Nat.le_of_ble_eq_true rfl) (fun x hB => ?_)
  show V x RX2 cX2_refusalOf 4 0 [some (.int (nI 1)), some (.int v), some (.int (nI a)), some (.int (nI c))] [] _
  refine V.iload_n (q := 1) dX2_refusalOf_0 rfl rfl ?_
  refine V.ifN_ne (t := 6) (q := 4) dX2_refusalOf_1 (by decide) rfl (by omega) (fun c1 => ?_) (fun c1 => absurd c1 (by decide +kernel))
  refine V.iload_n (q := 7) dX2_refusalOf_6 rfl rfl ?_
  refine V.iload_n (q := 8) dX2_refusalOf_7 rfl rfl ?_
  refine V.icmp_ge (t := 14) (q := 11) dX2_refusalOf_8 (by decide) rfl  (fun c8 => ?_) (fun c8 => ?_)
  · refine V.iload_n (q := 15) dX2_refusalOf_14 rfl rfl ?_
    refine V.iload_n (q := 16) dX2_refusalOf_15 rfl rfl ?_
    refine V.icmp_le (t := 24) (q := 19) dX2_refusalOf_16 (by decide) rfl  (fun c16 => ?_) (fun c16 => ?_)
    · refine V.iconst (q := 25) (v := nI 0) dX2_refusalOf_24 rfl (by decide +kernel) ?_
      exact V.ret_int hB dX2_refusalOf_25 rfl ⟨_, rfl, ⟨rfl, Or.inr (Or.inr ⟨rfl, rof_in c8 c16 hac hc⟩)⟩⟩
    · refine V.bipush (q := 21) (v := (-6)) dX2_refusalOf_19 rfl (by decide +kernel) ?_
      refine V.goto (q := 25) dX2_refusalOf_21 (by decide) ?_
      exact V.ret_int hB dX2_refusalOf_25 rfl ⟨_, rfl, ⟨rfl, Or.inr (Or.inl ⟨by unfold rfN; rw [if_neg (fun h9 => absurd c8 (Int32.not_le.mpr h9)), if_pos (Int32.not_le.mp c16)], rfl⟩)⟩⟩
  · refine V.bipush (q := 13) (v := (-4)) dX2_refusalOf_11 rfl (by decide +kernel) ?_
    exact V.ret_int hB dX2_refusalOf_13 rfl ⟨_, rfl, ⟨rfl, Or.inl ⟨by unfold rfN; rw [if_pos (Int32.not_le.mp c8)], rfl⟩⟩⟩

