/-! the model reads: place p of m letters -/
def RD (σ : Sg) (m : Nat) (cs : Nat → Nat) (p : Nat) : Prop := m ≤ 64 ∧ σ 43 10 = nI m ∧ σ 43 11 = nI p ∧ p ≤ 100 ∧ ∀ i, i < m → σ 49 i = nI (cs i) ∧ cs i < 256
/-- only the place and what is told change -/
def Gr (σ σ1 : Sg) : Prop := (∀ o, o ≠ 43 → o ≠ 50 → σ1 o = σ o) ∧ ∀ k, k ≠ 11 → σ1 43 k = σ 43 k
theorem Gr.rf {σ : Sg} : Gr σ σ := ⟨fun _ _ _ => rfl, fun _ _ => rfl⟩
theorem Gr.tr {σ σ1 σ2 : Sg} (h : Gr σ σ1) (h2 : Gr σ1 σ2) : Gr σ σ2 := ⟨fun o h3 h4 => (h2.1 o h3 h4).trans (h.1 o h3 h4), fun k hk => (h2.2 k hk).trans (h.2 k hk)⟩
theorem Gr.p {σ σ1 : Sg} {v : Int32} (h : Gr σ σ1) : Gr σ (w2 σ1 43 11 v) := ⟨fun o h3 h4 => by rw [w2_ne h3]; exact h.1 o h3 h4, fun k hk => by rw [w2_nk hk]; exact h.2 k hk⟩
theorem Gr.t {σ σ1 : Sg} {k : Nat} {v : Int32} (h : Gr σ σ1) : Gr σ (w2 σ1 50 k v) := ⟨fun o h3 h4 => by rw [w2_ne h4]; exact h.1 o h3 h4, fun q hq => by rw [w2_ne (by decide)]; exact h.2 q hq⟩
theorem RD.p {σ : Sg} {m p q : Nat} {cs : Nat → Nat} (h : RD σ m cs p) (hq : q ≤ 100) : RD (w2 σ 43 11 (nI q)) m cs q :=
  ⟨h.1, by rw [w2_nk (by decide)]; exact h.2.1, by rw [w2_at], hq, by rw [w2_ne (by decide)]; exact h.2.2.2.2⟩
theorem RD.t {σ : Sg} {m p k : Nat} {cs : Nat → Nat} {v : Int32} (h : RD σ m cs p) : RD (w2 σ 50 k v) m cs p :=
  ⟨h.1, by rw [w2_ne (by decide)]; exact h.2.1, by rw [w2_ne (by decide)]; exact h.2.2.1, h.2.2.2.1, by rw [w2_ne (by decide)]; exact h.2.2.2.2⟩
def sgK (m : Nat) (cs : Nat → Nat) (p : Nat) : Option Nat := if p < m then some (cs p) else none
set_option maxHeartbeats 4000000 in
set_option maxRecDepth 100000 in
theorem m_sign {σ : Sg} {m p : Nat} {cs : Nat → Nat} (hR : RD σ m cs p) : Con 1 yX3_sign cX3_sign 1 (some .int) [.ref 43] σ (PI (fun r σ1 => r = oI (-1) (sgK m cs p) ∧ σ1 = σ)) := by
  refine Con.of (by decide) (by simp [Value.category]) (Nat.le_of_ble_eq_true rfl) (fun x hB => ?_)
  show V x RX3 cX3_sign 1 0 [some (.ref 43)] [] _
  obtain ⟨hm64, h10, h11, hp100, hcs⟩ := hR
  refine V.aload_n (q := 1) dX3_sign_0 rfl rfl ?_
  refine V.getI (q := 4) dX3_sign_1 rfl kf_X3_75 rfl (by decide) rfl h11 ?_
  refine V.aload_n (q := 5) dX3_sign_4 rfl rfl ?_
  refine V.getI (q := 8) dX3_sign_5 rfl kf_X3_68 rfl (by decide) rfl h10 ?_
  refine V.icmpN_ge (t := 23) (q := 11) dX3_sign_8 (by decide) rfl (by omega) (by omega) (fun c8 => ?_) (fun c8 => ?_)
  · refine V.iconst (q := 24) (v := (-1)) dX3_sign_23 rfl (by decide +kernel) ?_
    exact V.ret_int hB dX3_sign_24 rfl ⟨_, rfl, ⟨by unfold sgK; rw [if_neg (by omega)]; rfl, rfl⟩⟩
  · have hc9 := hcs p c8
    refine V.aload_n (q := 12) dX3_sign_11 rfl rfl ?_
    refine V.getR (q := 15) dX3_sign_12 rfl kf_X3_32 rfl (by decide) rfl ?_
    refine V.aload_n (q := 16) dX3_sign_15 rfl rfl ?_
    refine V.getI (q := 19) dX3_sign_16 rfl kf_X3_75 rfl (by decide) rfl h11 ?_
    refine V.ialdN (q := 20) dX3_sign_19 rfl rfl (by decide) (by omega) (by decide) hc9.1 ?_
    refine V.goto (q := 24) dX3_sign_20 (by decide) ?_
    exact V.ret_int hB dX3_sign_24 rfl ⟨_, rfl, ⟨by unfold sgK; rw [if_pos c8]; rfl, rfl⟩⟩

set_option maxHeartbeats 4000000 in
set_option maxRecDepth 100000 in
theorem m_takes {σ : Sg} {m p : Nat} {cs : Nat → Nat} (hR : RD σ m cs p) {c : Nat} (hc : c < 256) : Con 2 yX3_takes cX3_takes 2 (some .boolean) [.ref 43, .int (nI c)] σ (PI (fun r σ1 => (r = nI 1 ∧ p < m ∧ cs p = c ∧ σ1 = w2 σ 43 11 (nI (p + 1))) ∨ (r = nI 0 ∧ ¬ (p < m ∧ cs p = c) ∧ σ1 = σ))) := by
  refine Con.of (by decide) (by simp [Value.category]) (Nat.le_of_ble_eq_true rfl) (fun x hB => ?_)
  show V x RX3 cX3_takes 2 0 [some (.ref 43), some (.int (nI c))] [] _
  refine V.aload_n (q := 1) dX3_takes_0 rfl rfl ?_
  refine V.cvi0 (q := 4) dX3_takes_1 rfl kc_X3_78 rfl (by decide) rfl (hB.rm (by decide)) (Nat.le_of_ble_eq_true rfl) (m_sign hR) (fun r1 τ1 hp1 => ?_)
  obtain ⟨rfl, hz⟩ := hp1
  obtain ⟨hm64, h10, h11, hp100, hcs⟩ := hR
  rw [hz]
  by_cases hpm : p < m
  · have hc9 := hcs p hpm
    rw [show oI (-1) (sgK m cs p) = nI (cs p) by unfold sgK; rw [if_pos hpm]; rfl]
    refine V.iload_n (q := 5) dX3_takes_4 rfl rfl ?_
    refine V.icmpN_eq (t := 10) (q := 8) dX3_takes_5 (by decide) rfl (by omega) (by omega) (fun c5 => ?_) (fun c5 => ?_)
    · refine V.aload_n (q := 11) dX3_takes_10 rfl rfl ?_
      refine V.dup (q := 12) dX3_takes_11 rfl rfl ?_
      refine V.getI (q := 15) dX3_takes_12 rfl kf_X3_75 rfl (by decide) rfl h11 ?_
      refine V.iconst (q := 16) (v := nI 1) dX3_takes_15 rfl (by decide +kernel) ?_
      refine V.iaddN (q := 17) dX3_takes_16 rfl ?_
      refine V.putI (q := 20) dX3_takes_17 rfl kp_X3_75 rfl (by decide) rfl rfl rfl ?_
      refine V.iconst (q := 21) (v := nI 1) dX3_takes_20 rfl (by decide +kernel) ?_
      exact V.ret_int hB dX3_takes_21 (by decide +kernel) ⟨_, rfl, Or.inl ⟨rfl, hpm, c5, rfl⟩⟩
    · refine V.iconst (q := 9) (v := nI 0) dX3_takes_8 rfl (by decide +kernel) ?_
      exact V.ret_int hB dX3_takes_9 (by decide +kernel) ⟨_, rfl, Or.inr ⟨rfl, fun h9 => c5 h9.2, rfl⟩⟩
  · rw [show oI (-1) (sgK m cs p) = -1 by unfold sgK; rw [if_neg hpm]; rfl]
    refine V.iload_n (q := 5) dX3_takes_4 rfl rfl ?_
    refine V.icmp_eq (t := 10) (q := 8) dX3_takes_5 (by decide) rfl  (fun c5 => absurd c5 (fun h9 => nI_m1 (show c < 2 ^ 31 by omega) h9.symm)) (fun c5 => ?_)
    refine V.iconst (q := 9) (v := nI 0) dX3_takes_8 rfl (by decide +kernel) ?_
    exact V.ret_int hB dX3_takes_9 (by decide +kernel) ⟨_, rfl, Or.inr ⟨rfl, fun h9 => hpm h9.1, rfl⟩⟩

theorem kd_ca (oc : Option Nat) (h : ∀ c, oc = some c → c < 256) : oc = some 99 ∨ oc = some 100 ∨ oc = some 108 ∨ oc = some 109 ∨ oc = some 116 ∨ oc = some 119 ∨ ((∀ k, (k = 99 ∨ k = 100 ∨ k = 108 ∨ k = 109 ∨ k = 116 ∨ k = 119) → ¬ oI (-1) oc = nI k) ∧ oc.bind kdM = none) := by
  cases oc with
  | none =>
    refine Or.inr (Or.inr (Or.inr (Or.inr (Or.inr (Or.inr ⟨fun k hk h9 => ?_, rfl⟩)))))
    exact nI_m1 (show k < 2 ^ 31 by omega) h9.symm
  | some c =>
    have hc := h c rfl
    by_cases h1 : c = 99 ∨ c = 100 ∨ c = 108 ∨ c = 109 ∨ c = 116 ∨ c = 119
    · rcases h1 with rfl | rfl | rfl | rfl | rfl | rfl <;> simp
    · refine Or.inr (Or.inr (Or.inr (Or.inr (Or.inr (Or.inr ⟨fun k hk h9 => ?_, ?_⟩)))))
      · have := (nI_eq (show c < 2 ^ 31 by omega) (show k < 2 ^ 31 by omega)).mp h9
        subst this; exact h1 hk
      · show kdM c = none
        unfold kdM
        rw [if_neg (by omega), if_neg (by omega), if_neg (by omega), if_neg (by omega), if_neg (by omega), if_neg (by omega)]
theorem kd_out {v : Int32} (h : ∀ k, (k = 99 ∨ k = 100 ∨ k = 108 ∨ k = 109 ∨ k = 116 ∨ k = 119) → ¬ v = nI k) : Op.lookupswitch.offset [(99, 69), (100, 59), (108, 61), (109, 67), (116, 63), (119, 65)] 71 v.toInt = 71 := by
  rw [lv_osw (h 99 (by simp)) (by decide +kernel), lv_osw (h 100 (by simp)) (by decide +kernel), lv_osw (h 108 (by simp)) (by decide +kernel), lv_osw (h 109 (by simp)) (by decide +kernel), lv_osw (h 116 (by simp)) (by decide +kernel), lv_osw (h 119 (by simp)) (by decide +kernel)]
  rfl
set_option maxHeartbeats 4000000 in
set_option maxRecDepth 100000 in
theorem m_kindOf {σ : Sg} (oc : Option Nat) (hoc : ∀ c, oc = some c → c < 256) : Con 1 yX3_kindOf cX3_kindOf 1 (some .int) [.int (oI (-1) oc)] σ (PI (fun r σ1 => r = oI (-9) (oc.bind kdM) ∧ σ1 = σ)) := by
  refine Con.of (by decide) (by simp [Value.category]) (Nat.le_of_ble_eq_true rfl) (fun x hB => ?_)
  show V x RX3 cX3_kindOf 1 0 [some (.int (oI (-1) oc))] [] _
  refine V.iload_n (q := 1) dX3_kindOf_0 rfl rfl ?_
  rcases kd_ca oc hoc with rfl | rfl | rfl | rfl | rfl | rfl | ⟨hne, hno⟩
  · refine V.lookup (q := 70) (off := 69) dX3_kindOf_1 (by decide) (by decide +kernel) (by decide) ?_
    refine V.iconst (q := 71) (v := nI 5) dX3_kindOf_70 rfl (by decide +kernel) ?_
    exact V.ret_int hB dX3_kindOf_71 rfl ⟨_, rfl, ⟨rfl, rfl⟩⟩
  · refine V.lookup (q := 60) (off := 59) dX3_kindOf_1 (by decide) (by decide +kernel) (by decide) ?_
    refine V.iconst (q := 61) (v := nI 0) dX3_kindOf_60 rfl (by decide +kernel) ?_
    exact V.ret_int hB dX3_kindOf_61 rfl ⟨_, rfl, ⟨rfl, rfl⟩⟩
  · refine V.lookup (q := 62) (off := 61) dX3_kindOf_1 (by decide) (by decide +kernel) (by decide) ?_
    refine V.iconst (q := 63) (v := nI 1) dX3_kindOf_62 rfl (by decide +kernel) ?_
    exact V.ret_int hB dX3_kindOf_63 rfl ⟨_, rfl, ⟨rfl, rfl⟩⟩
  · refine V.lookup (q := 68) (off := 67) dX3_kindOf_1 (by decide) (by decide +kernel) (by decide) ?_
    refine V.iconst (q := 69) (v := nI 4) dX3_kindOf_68 rfl (by decide +kernel) ?_
    exact V.ret_int hB dX3_kindOf_69 rfl ⟨_, rfl, ⟨rfl, rfl⟩⟩
  · refine V.lookup (q := 64) (off := 63) dX3_kindOf_1 (by decide) (by decide +kernel) (by decide) ?_
    refine V.iconst (q := 65) (v := nI 2) dX3_kindOf_64 rfl (by decide +kernel) ?_
    exact V.ret_int hB dX3_kindOf_65 rfl ⟨_, rfl, ⟨rfl, rfl⟩⟩
  · refine V.lookup (q := 66) (off := 65) dX3_kindOf_1 (by decide) (by decide +kernel) (by decide) ?_
    refine V.iconst (q := 67) (v := nI 3) dX3_kindOf_66 rfl (by decide +kernel) ?_
    exact V.ret_int hB dX3_kindOf_67 rfl ⟨_, rfl, ⟨rfl, rfl⟩⟩
  · refine V.lookup (q := 72) (off := 71) dX3_kindOf_1 (by decide) (kd_out hne) (by decide) ?_
    refine V.bipush (q := 74) (v := (-9)) dX3_kindOf_72 rfl (by decide +kernel) ?_
    exact V.ret_int hB dX3_kindOf_74 rfl ⟨_, rfl, ⟨by rw [hno]; rfl, rfl⟩⟩

