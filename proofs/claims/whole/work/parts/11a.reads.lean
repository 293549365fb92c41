/-! the model reads: place p of m letters -/
def RD (σ : Sg) (m : Nat) (cs : Nat → Nat) (p : Nat) : Prop := m ≤ 64 ∧ σ 43 10 = nI m ∧ σ 43 11 = nI p ∧ p ≤ 100 ∧ ∀ i, i < m → σ 49 i = nI (cs i) ∧ cs i < 256
/-- only the place and what is told change -/
def Gr (σ σ1 : Sg) : Prop := (∀ o, o ≠ 43 → o ≠ 50 → σ1 o = σ o) ∧ ∀ k, k ≠ 11 → σ1 43 k = σ 43 k
theorem Gr.rf {σ : Sg} : Gr σ σ := ⟨fun _ _ _ => rfl, fun _ _ => rfl⟩
theorem Gr.tr {σ σ1 σ2 : Sg} (h : Gr σ σ1) (h2 : Gr σ1 σ2) : Gr σ σ2 := ⟨fun o h3 h4 => (h2.1 o h3 h4).trans (h.1 o h3 h4), fun k hk => (h2.2 k hk).trans (h.2 k hk)⟩
theorem Gr.p {σ σ1 : Sg} {v : Int32} (h : Gr σ σ1) : Gr σ (w2 σ1 43 11 v) := ⟨fun o h3 h4 => by rw [w2_ne h3]; exact h.1 o h3 h4, fun k hk => by rw [w2_nk hk]; exact h.2 k hk⟩
theorem Gr.t {σ σ1 : Sg} {k : Nat} {v : Int32} (h : Gr σ σ1) : Gr σ (w2 σ1 50 k v) := ⟨fun o h3 h4 => by rw [w2_ne h4]; exact h.1 o h3 h4, fun q hq => by rw [w2_ne (by decide)]; exact h.2 q hq⟩
theorem RD.p {σ : Sg} {m p q : Nat} {cs : Nat → Nat} (h : RD σ m cs p) (hq : q ≤ 100) : RD (w2 σ 43 11 (nI q)) m cs q :=
  ⟨h.1, by rw [w2_nk (by decide)]; exact h.2.1, by rw [w2_at], hq, by rw [w2_ne (by decide)]; exact h.2.2.2.2⟩
theorem RD.t {σ : Sg} {m p k : Nat} {cs : Nat → Nat} {v : Int32} (h : RD σ m cs p) : RD (w2 σ 50 k v) m cs p :=
  ⟨h.1, by rw [w2_ne (by decide)]; exact h.2.1, by rw [w2_ne (by decide)]; exact h.2.2.1, h.2.2.2.1, by rw [w2_ne (by decide)]; exact h.2.2.2.2⟩
def sgK (m : Nat) (cs : Nat → Nat) (p : Nat) : Option Nat := if p < m then some (cs p) else none
set_option maxHeartbeats 4000000 in
set_option maxRecDepth 100000 in
theorem m_sign {σ : Sg} {m p : Nat} {cs : Nat → Nat} (hR : RD σ m cs p) : Con 1 yX3_sign cX3_sign 1 (some .int) [.ref 43] σ (PI (fun r σ1 => r = oI (-1) (sgK m cs p) ∧ σ1 = σ)) := by
  refine Con.of (by decide) (by simp [Value.category]) (Nat.le_of_ble_eq_true rfl) (fun x hB => ?_)
  show V x RX3 cX3_sign 1 0 [some (.ref 43)] [] _
  obtain ⟨hm64, h10, h11, hp100, hcs⟩ := hR
  refine V.aload_n (q := 1) dX3_sign_0 rfl rfl ?_
  refine V.getI (q := 4) dX3_sign_1 rfl kf_X3_75 rfl (by decide) rfl h11 ?_
  refine V.aload_n (q := 5) dX3_sign_4 rfl rfl ?_
  refine V.getI (q := 8) dX3_sign_5 rfl kf_X3_68 rfl (by decide) rfl h10 ?_
  refine V.icmpN_ge (t := 23) (q := 11) dX3_sign_8 (by decide) rfl (by omega) (by omega) (fun c8 => ?_) (fun c8 => ?_)
  · refine V.iconst (q := 24) (v := (-1)) dX3_sign_23 rfl (by decide +kernel) ?_
    exact V.ret_int hB dX3_sign_24 rfl ⟨_, rfl, ⟨by unfold sgK; rw [if_neg (by omega)]; rfl, rfl⟩⟩
  · have hc9 := hcs p c8
    refine V.aload_n (q := 12) dX3_sign_11 rfl rfl ?_
    refine V.getR (q := 15) dX3_sign_12 rfl kf_X3_32 rfl (by decide) rfl ?_
    refine V.aload_n (q := 16) dX3_sign_15 rfl rfl ?_
    refine V.getI (q := 19) dX3_sign_16 rfl kf_X3_75 rfl (by decide) rfl h11 ?_
    refine V.ialdN (q := 20) dX3_sign_19 rfl rfl (by decide) (by omega) (by decide) hc9.1 ?_
    refine V.goto (q := 24) dX3_sign_20 (by decide) ?_
    exact V.ret_int hB dX3_sign_24 rfl ⟨_, rfl, ⟨by unfold sgK; rw [if_pos c8]; rfl, rfl⟩⟩

set_option maxHeartbeats 4000000 in
set_option maxRecDepth 100000 in
theorem m_takes {σ : Sg} {m p : Nat} {cs : Nat → Nat} (hR : RD σ m cs p) {c : Nat} (hc : c < 256) : Con 2 yX3_takes cX3_takes 2 (some .boolean) [.ref 43, .int (nI c)] σ (PI (fun r σ1 => (r = nI 1 ∧ p < m ∧ cs p = c ∧ σ1 = w2 σ 43 11 (nI (p + 1))) ∨ (r = nI 0 ∧ ¬ (p < m ∧ cs p = c) ∧ σ1 = σ))) := by
  refine Con.of (by decide) (by simp [Value.category]) (Nat.le_of_ble_eq_true rfl) (fun x hB => ?_)
  show V x RX3 cX3_takes 2 0 [some (.ref 43), some (.int (nI c))] [] _
  refine V.aload_n (q := 1) dX3_takes_0 rfl rfl ?_
  refine V.cvi0 (q := 4) dX3_takes_1 rfl kc_X3_78 rfl (by decide) rfl (hB.rm (by decide)) (Nat.le_of_ble_eq_true rfl) (m_sign hR) (fun r1 τ1 hp1 => ?_)
  obtain ⟨rfl, hz⟩ := hp1
  obtain ⟨hm64, h10, h11, hp100, hcs⟩ := hR
  rw [hz]
  by_cases hpm : p < m
  · have hc9 := hcs p hpm
    rw [show oI (-1) (sgK m cs p) = nI (cs p) by unfold sgK; rw [if_pos hpm]; rfl]
    refine V.iload_n (q := 5) dX3_takes_4 rfl rfl ?_
    refine V.icmpN_eq (t := 10) (q := 8) dX3_takes_5 (by decide) rfl (by omega) (by omega) (fun c5 => ?_) (fun c5 => ?_)
    · refine V.aload_n (q := 11) dX3_takes_10 rfl rfl ?_
      refine V.dup (q := 12) dX3_takes_11 rfl rfl ?_
      refine V.getI (q := 15) dX3_takes_12 rfl kf_X3_75 rfl (by decide) rfl h11 ?_
      refine V.iconst (q := 16) (v := nI 1) dX3_takes_15 rfl (by decide +kernel) ?_
      refine V.iaddN (q := 17) dX3_takes_16 rfl ?_
      refine V.putI (q := 20) dX3_takes_17 rfl kp_X3_75 rfl (by decide) rfl rfl rfl ?_
      refine V.iconst (q := 21) (v := nI 1) dX3_takes_20 rfl (by decide +kernel) ?_
      exact V.ret_int hB dX3_takes_21 (by decide +kernel) ⟨_, rfl, Or.inl ⟨rfl, hpm, c5, rfl⟩⟩
    · refine V.iconst (q := 9) (v := nI 0) dX3_takes_8 rfl (by decide +kernel) ?_
      exact V.ret_int hB dX3_takes_9 (by decide +kernel) ⟨_, rfl, Or.inr ⟨rfl, fun h9 => c5 h9.2, rfl⟩⟩
  · rw [show oI (-1) (sgK m cs p) = -1 by unfold sgK; rw [if_neg hpm]; rfl]
    refine V.iload_n (q := 5) dX3_takes_4 rfl rfl ?_
    refine V.icmp_eq (t := 10) (q := 8) dX3_takes_5 (by decide) rfl  (fun c5 => absurd c5 (fun h9 => nI_m1 (show c < 2 ^ 31 by omega) h9.symm)) (fun c5 => ?_)
    refine V.iconst (q := 9) (v := nI 0) dX3_takes_8 rfl (by decide +kernel) ?_
    exact V.ret_int hB dX3_takes_9 (by decide +kernel) ⟨_, rfl, Or.inr ⟨rfl, fun h9 => hpm h9.1, rfl⟩⟩

theorem kd_ca (oc : Option Nat) (h : ∀ c, oc = some c → c < 256) : oc = some 99 ∨ oc = some 100 ∨ oc = some 108 ∨ oc = some 109 ∨ oc = some 116 ∨ oc = some 119 ∨ ((∀ k, (k = 99 ∨ k = 100 ∨ k = 108 ∨ k = 109 ∨ k = 116 ∨ k = 119) → ¬ oI (-1) oc = nI k) ∧ oc.bind kdM = none) := by
  cases oc with
  | none =>
    refine Or.inr (Or.inr (Or.inr (Or.inr (Or.inr (Or.inr ⟨fun k hk h9 => ?_, rfl⟩)))))
    exact nI_m1 (show k < 2 ^ 31 by omega) h9.symm
  | some c =>
    have hc := h c rfl
    by_cases h1 : c = 99 ∨ c = 100 ∨ c = 108 ∨ c = 109 ∨ c = 116 ∨ c = 119
    · rcases h1 with rfl | rfl | rfl | rfl | rfl | rfl <;> simp
    · refine Or.inr (Or.inr (Or.inr (Or.inr (Or.inr (Or.inr ⟨fun k hk h9 => ?_, ?_⟩)))))
      · have := (nI_eq (show c < 2 ^ 31 by omega) (show k < 2 ^ 31 by omega)).mp h9
        subst this; exact h1 hk
      · show kdM c = none
        unfold kdM
        rw [if_neg (by omega), if_neg (by omega), if_neg (by omega), if_neg (by omega), if_neg (by omega), if_neg (by omega)]
theorem kd_out {v : Int32} (h : ∀ k, (k = 99 ∨ k = 100 ∨ k = 108 ∨ k = 109 ∨ k = 116 ∨ k = 119) → ¬ v = nI k) : Op.lookupswitch.offset [(99, 69), (100, 59), (108, 61), (109, 67), (116, 63), (119, 65)] 71 v.toInt = 71 := by
  rw [lv_osw (h 99 (by simp)) (by decide +kernel), lv_osw (h 100 (by simp)) (by decide +kernel), lv_osw (h 108 (by simp)) (by decide +kernel), lv_osw (h 109 (by simp)) (by decide +kernel), lv_osw (h 116 (by simp)) (by decide +kernel), lv_osw (h 119 (by simp)) (by decide +kernel)]
  rfl
set_option maxHeartbeats 4000000 in
set_option maxRecDepth 100000 in
theorem m_kindOf {σ : Sg} (oc : Option Nat) (hoc : ∀ c, oc = some c → c < 256) : Con 1 yX3_kindOf cX3_kindOf 1 (some .int) [.int (oI (-1) oc)] σ (PI (fun r σ1 => r = oI (-9) (oc.bind kdM) ∧ σ1 = σ)) := by
  refine Con.of (by decide) (by simp [Value.category]) (Nat.le_of_ble_eq_true rfl) (fun x hB => ?_)
  show V x RX3 cX3_kindOf 1 0 [some (.int (oI (-1) oc))] [] _
  refine V.iload_n (q := 1) dX3_kindOf_0 rfl rfl ?_
  rcases kd_ca oc hoc with rfl | rfl | rfl | rfl | rfl | rfl | ⟨hne, hno⟩
  · refine V.lookup (q := 70) (off := 69) dX3_kindOf_1 (by decide) (by decide +kernel) (by decide) ?_
    refine V.iconst (q := 71) (v := nI 5) dX3_kindOf_70 rfl (by decide +kernel) ?_
    exact V.ret_int hB dX3_kindOf_71 rfl ⟨_, rfl, ⟨rfl, rfl⟩⟩
  · refine V.lookup (q := 60) (off := 59) dX3_kindOf_1 (by decide) (by decide +kernel) (by decide) ?_
    refine V.iconst (q := 61) (v := nI 0) dX3_kindOf_60 rfl (by decide +kernel) ?_
    exact V.ret_int hB dX3_kindOf_61 rfl ⟨_, rfl, ⟨rfl, rfl⟩⟩
  · refine V.lookup (q := 62) (off := 61) dX3_kindOf_1 (by decide) (by decide +kernel) (by decide) ?_
    refine V.iconst (q := 63) (v := nI 1) dX3_kindOf_62 rfl (by decide +kernel) ?_
    exact V.ret_int hB dX3_kindOf_63 rfl ⟨_, rfl, ⟨rfl, rfl⟩⟩
  · refine V.lookup (q := 68) (off := 67) dX3_kindOf_1 (by decide) (by decide +kernel) (by decide) ?_
    refine V.iconst (q := 69) (v := nI 4) dX3_kindOf_68 rfl (by decide +kernel) ?_
    exact V.ret_int hB dX3_kindOf_69 rfl ⟨_, rfl, ⟨rfl, rfl⟩⟩
  · refine V.lookup (q := 64) (off := 63) dX3_kindOf_1 (by decide) (by decide +kernel) (by decide) ?_
    refine V.iconst (q := 65) (v := nI 2) dX3_kindOf_64 rfl (by decide +kernel) ?_
    exact V.ret_int hB dX3_kindOf_65 rfl ⟨_, rfl, ⟨rfl, rfl⟩⟩
  · refine V.lookup (q := 66) (off := 65) dX3_kindOf_1 (by decide) (by decide +kernel) (by decide) ?_
    refine V.iconst (q := 67) (v := nI 3) dX3_kindOf_66 rfl (by decide +kernel) ?_
    exact V.ret_int hB dX3_kindOf_67 rfl ⟨_, rfl, ⟨rfl, rfl⟩⟩
  · refine V.lookup (q := 72) (off := 71) dX3_kindOf_1 (by decide) (kd_out hne) (by decide) ?_
    refine V.bipush (q := 74) (v := (-9)) dX3_kindOf_72 rfl (by decide +kernel) ?_
    exact V.ret_int hB dX3_kindOf_74 rfl ⟨_, rfl, ⟨by rw [hno]; rfl, rfl⟩⟩

def dgP (m : Nat) (cs : Nat → Nat) (p : Nat) : Prop := p < m ∧ 48 ≤ cs p ∧ cs p ≤ 57
def vlK (cs : Nat → Nat) (p : Nat) : Nat → Nat
  | 0 => 0
  | n + 1 => 10 * vlK cs p n + (cs (p + n) - 48)
theorem dig_sN {m p : Nat} {cs : Nat → Nat} (h : ∀ i, i < m → cs i < 256) : sN (oI (-1) (sgK m cs p) - nI 48) 10 ↔ dgP m cs p := by
  unfold sgK dgP
  by_cases hp : p < m
  · rw [if_pos hp]
    have hc := h p hp
    show sN (nI (cs p) - nI 48) 10 ↔ _
    constructor
    · rintro ⟨k, hk, e⟩
      rcases Nat.lt_or_ge (cs p) 48 with h1 | h1
      · have h2 := pk_sneg (a := cs p) (b := 48) (by omega) h1
        rw [e] at h2; exact absurd h2 (nI_pos (by omega))
      · rw [pk_sub h1] at e
        have := (nI_eq (by omega) (by omega)).mp e
        omega
    · rintro ⟨-, h1, h2⟩
      exact ⟨cs p - 48, by omega, pk_sub h1⟩
  · rw [if_neg hp]
    constructor
    · intro h9
      exact absurd h9 (sNb_neg (by decide) (by decide +kernel))
    · intro h9; exact absurd h9.1 hp
set_option maxHeartbeats 4000000 in
set_option maxRecDepth 100000 in
theorem m_readsNumber {σ : Sg} {m p : Nat} {cs : Nat → Nat} (hR : RD σ m cs p) (hpm : p ≤ 80) {k most : Nat} (hk : k < 4) (hmo : most ≤ 2) : Con 2 yX3_readsNumber cX3_readsNumber 4 (some .boolean) [.ref 43, .int (nI k), .int (nI most)] σ (PI (fun r σ1 => ∃ n, n ≤ most ∧ (∀ i, i < n → dgP m cs (p + i)) ∧ (n = most ∨ ¬ dgP m cs (p + n)) ∧ r = nI (if 0 < n then 1 else 0) ∧ σ1 50 k = nI (vlK cs p n) ∧ RD σ1 m cs (p + n) ∧ Gr σ σ1 ∧ ∀ q, q ≠ k → σ1 50 q = σ 50 q)) := by
  refine Con.of (by decide) (by simp [Value.category]) (Nat.le_of_ble_eq_true rfl) (fun x hB => ?_)
  show V x RX3 cX3_readsNumber 4 0 [some (.ref 43), some (.int (nI k)), some (.int (nI most)), none] [] _
  refine V.aload_n (q := 1) dX3_readsNumber_0 rfl rfl ?_
  refine V.getR (q := 4) dX3_readsNumber_1 rfl kf_X3_35 rfl (by decide) rfl ?_
  refine V.iload_n (q := 5) dX3_readsNumber_4 rfl rfl ?_
  refine V.iconst (q := 6) (v := nI 0) dX3_readsNumber_5 rfl (by decide +kernel) ?_
  refine V.iastN (q := 7) dX3_readsNumber_6 rfl rfl (by decide) (by omega) (by decide) ?_
  refine V.iconst (q := 8) (v := nI 0) dX3_readsNumber_7 rfl (by decide +kernel) ?_
  refine V.ist3 (q := 9) dX3_readsNumber_8 rfl ?_
  have loop : ∀ n, n ≤ most → ∀ σ1, (∀ i, i < n → dgP m cs (p + i)) → σ1 50 k = nI (vlK cs p n) → RD σ1 m cs (p + n) → Gr σ σ1 → (∀ q, q ≠ k → σ1 50 q = σ 50 q) → V x RX3 cX3_readsNumber 4 9 [some (.ref 43), some (.int (nI k)), some (.int (nI most)), some (.int (nI n))] [] σ1 := by
    refine down most (fun n hn ih σ1 hd hv hR1 hG1 hq1 => ?_)
    have hcs := fun i hi => (hR1.2.2.2.2 i hi).2
    refine V.iload_n (q := 10) dX3_readsNumber_9 rfl rfl ?_
    refine V.iload_n (q := 11) dX3_readsNumber_10 rfl rfl ?_
    refine V.icmpN_ge (t := 68) (q := 14) dX3_readsNumber_11 (by decide) rfl (by omega) (by omega) (fun c11 => ?_) (fun c11 => ?_)
    · have hfin : n = most ∨ ¬ dgP m cs (p + n) := Or.inl (by omega)
      refine V.iload_n (q := 69) dX3_readsNumber_68 rfl rfl ?_
      refine V.ifN_le (t := 76) (q := 72) dX3_readsNumber_69 (by decide) rfl (by omega) (fun c69 => ?_) (fun c69 => ?_)
      · refine V.iconst (q := 77) (v := nI 0) dX3_readsNumber_76 rfl (by decide +kernel) ?_
        exact V.ret_int hB dX3_readsNumber_77 (by decide +kernel) ⟨_, rfl, ⟨n, hn, hd, hfin, by rw [if_neg (by omega)], hv, hR1, hG1, hq1⟩⟩
      · refine V.iconst (q := 73) (v := nI 1) dX3_readsNumber_72 rfl (by decide +kernel) ?_
        refine V.goto (q := 77) dX3_readsNumber_73 (by decide) ?_
        exact V.ret_int hB dX3_readsNumber_77 (by decide +kernel) ⟨_, rfl, ⟨n, hn, hd, hfin, by rw [if_pos (by omega)], hv, hR1, hG1, hq1⟩⟩
    · refine V.aload_n (q := 15) dX3_readsNumber_14 rfl rfl ?_
      refine V.cvi0 (q := 18) dX3_readsNumber_15 rfl kc_X3_78 rfl (by decide) rfl (hB.rm (by decide)) (Nat.le_of_ble_eq_true rfl) (m_sign hR1) (fun r15 τ15 hp15 => ?_)
      obtain ⟨rfl, hz⟩ := hp15
      rw [hz]
      refine V.bipush (q := 20) (v := nI 48) dX3_readsNumber_18 rfl (by decide +kernel) ?_
      refine V.isub (q := 21) dX3_readsNumber_20 rfl ?_
      refine V.bipush (q := 23) (v := nI 10) dX3_readsNumber_21 rfl (by decide +kernel) ?_
      refine V.csi2 (q := 26) dX3_readsNumber_23 rfl kc_X3_60 (hB.rm (by decide)) (Nat.le_of_ble_eq_true rfl) (m_isIn _ 10 (by decide)) (fun r23 τ23 hp23 => ?_)
      obtain ⟨hz, ⟨rfl, hs9⟩ | ⟨rfl, hs9⟩⟩ := hp23
      · rw [hz]
        have hdg := (dig_sN hcs).mp hs9
        have hsg : oI (-1) (sgK m cs (p + n)) = nI (cs (p + n)) := by unfold sgK; rw [if_pos hdg.1]; rfl
        refine V.ifN_eq (t := 68) (q := 29) dX3_readsNumber_26 (by decide) rfl (by omega) (fun c26 => absurd c26 (by decide +kernel)) (fun c26 => ?_)
        refine V.aload_n (q := 30) dX3_readsNumber_29 rfl rfl ?_
        refine V.getR (q := 33) dX3_readsNumber_30 rfl kf_X3_35 rfl (by decide) rfl ?_
        refine V.iload_n (q := 34) dX3_readsNumber_33 rfl rfl ?_
        refine V.bipush (q := 36) (v := nI 10) dX3_readsNumber_34 rfl (by decide +kernel) ?_
        refine V.aload_n (q := 37) dX3_readsNumber_36 rfl rfl ?_
        refine V.getR (q := 40) dX3_readsNumber_37 rfl kf_X3_35 rfl (by decide) rfl ?_
        refine V.iload_n (q := 41) dX3_readsNumber_40 rfl rfl ?_
        refine V.ialdN (q := 42) dX3_readsNumber_41 rfl rfl (by decide) (by omega) (by decide) hv ?_
        refine V.imulN (q := 43) dX3_readsNumber_42 rfl ?_
        refine V.aload_n (q := 44) dX3_readsNumber_43 rfl rfl ?_
        refine V.cvi0 (q := 47) dX3_readsNumber_44 rfl kc_X3_78 rfl (by decide) rfl (hB.rm (by decide)) (Nat.le_of_ble_eq_true rfl) (m_sign hR1) (fun r44 τ44 hp44 => ?_)
        obtain ⟨rfl, hz⟩ := hp44
        rw [hz]
        rw [hsg]
        refine V.iaddN (q := 48) dX3_readsNumber_47 rfl ?_
        refine V.bipush (q := 50) (v := nI 48) dX3_readsNumber_48 rfl (by decide +kernel) ?_
        refine V.isubN (q := 51) dX3_readsNumber_50 rfl (by have := hdg.2.1; omega) ?_
        rw [show 10 * vlK cs p n + cs (p + n) - 48 = vlK cs p (n + 1) by have := hdg.2.1; show _ = 10 * vlK cs p n + (cs (p + n) - 48); omega]
        refine V.iastN (q := 52) dX3_readsNumber_51 rfl rfl (by decide) (by omega) (by decide) ?_
        refine V.aload_n (q := 53) dX3_readsNumber_52 rfl rfl ?_
        refine V.dup (q := 54) dX3_readsNumber_53 rfl rfl ?_
        refine V.getI (q := 57) dX3_readsNumber_54 rfl kf_X3_75 rfl (by decide) rfl (show _ = nI (p + n) by rw [w2_ne (by decide)]; exact hR1.2.2.1) ?_
        refine V.iconst (q := 58) (v := nI 1) dX3_readsNumber_57 rfl (by decide +kernel) ?_
        refine V.iaddN (q := 59) dX3_readsNumber_58 rfl ?_
        refine V.putI (q := 62) dX3_readsNumber_59 rfl kp_X3_75 rfl (by decide) rfl rfl rfl ?_
        refine V.inc3 (q := 65) dX3_readsNumber_62 rfl (inc1 _) ?_
        refine V.goto (q := 9) dX3_readsNumber_65 (by decide) ?_
        refine ih (by omega) _ (fun i hi => ?_) (by rw [w2_ne (by decide), w2_at]) (hR1.t.p (by omega)) hG1.t.p (fun q hq => by rw [w2_ne (by decide), w2_nk hq]; exact hq1 q hq)
        rcases Nat.lt_or_ge i n with h9 | h9
        · exact hd i h9
        · have : i = n := by omega
          subst this; exact hdg
      · rw [hz]
        have hfin : n = most ∨ ¬ dgP m cs (p + n) := Or.inr (fun h9 => hs9 ((dig_sN hcs).mpr h9))
        refine V.ifN_eq (t := 68) (q := 29) dX3_readsNumber_26 (by decide) rfl (by omega) (fun c26 => ?_) (fun c26 => absurd c26 (by decide +kernel))
        refine V.iload_n (q := 69) dX3_readsNumber_68 rfl rfl ?_
        refine V.ifN_le (t := 76) (q := 72) dX3_readsNumber_69 (by decide) rfl (by omega) (fun c69 => ?_) (fun c69 => ?_)
        · refine V.iconst (q := 77) (v := nI 0) dX3_readsNumber_76 rfl (by decide +kernel) ?_
          exact V.ret_int hB dX3_readsNumber_77 (by decide +kernel) ⟨_, rfl, ⟨n, hn, hd, hfin, by rw [if_neg (by omega)], hv, hR1, hG1, hq1⟩⟩
        · refine V.iconst (q := 73) (v := nI 1) dX3_readsNumber_72 rfl (by decide +kernel) ?_
          refine V.goto (q := 77) dX3_readsNumber_73 (by decide) ?_
          exact V.ret_int hB dX3_readsNumber_77 (by decide +kernel) ⟨_, rfl, ⟨n, hn, hd, hfin, by rw [if_pos (by omega)], hv, hR1, hG1, hq1⟩⟩
  exact loop 0 (Nat.zero_le _) _ (fun i hi => absurd hi (by omega)) (by rw [w2_at]; rfl) hR.t Gr.rf.t (fun q hq => by rw [w2_nk hq])

theorem kdb_some {m p k : Nat} {cs : Nat → Nat} (h : (sgK m cs p).bind kdM = some k) : p < m ∧ kdM (cs p) = some k := by
  unfold sgK at h
  by_cases hp : p < m
  · rw [if_pos hp] at h; exact ⟨hp, h⟩
  · rw [if_neg hp] at h; cases h
theorem kdb_none {m p : Nat} {cs : Nat → Nat} (h : (sgK m cs p).bind kdM = none) : ¬ (p < m ∧ (kdM (cs p)).isSome = true) := by
  rintro ⟨hp, h2⟩
  unfold sgK at h
  rw [if_pos hp] at h
  have h3 : kdM (cs p) = none := h
  rw [h3] at h2; cases h2
theorem kdM_5 {c k : Nat} (h : kdM c = some k) : k ≤ 5 := by
  unfold kdM at h
  repeat' split at h
  all_goals first | (have := Option.some.inj h; omega) | cases h
theorem sg_256 {σ : Sg} {m p : Nat} {cs : Nat → Nat} (h : RD σ m cs p) : ∀ c, sgK m cs p = some c → c < 256 := by
  intro c hc
  unfold sgK at hc
  by_cases hp : p < m
  · rw [if_pos hp] at hc; have := Option.some.inj hc; subst this; exact (h.2.2.2.2 p hp).2
  · rw [if_neg hp] at hc; cases hc
set_option maxHeartbeats 4000000 in
set_option maxRecDepth 100000 in
theorem m_readsKind {σ : Sg} {m p : Nat} {cs : Nat → Nat} (hR : RD σ m cs p) (hpm : p ≤ 80) : Con 2 yX3_readsKind cX3_readsKind 1 (some .boolean) [.ref 43] σ (PI (fun r σ1 => (r = nI 1 ∧ p < m ∧ (∃ k, kdM (cs p) = some k ∧ σ1 50 0 = nI k) ∧ RD σ1 m cs (p + 1) ∧ Gr σ σ1 ∧ ∀ q, q ≠ 0 → σ1 50 q = σ 50 q) ∨ (r = nI 0 ∧ ¬ (p < m ∧ (kdM (cs p)).isSome = true) ∧ RD σ1 m cs p ∧ Gr σ σ1))) := by
  refine Con.of (by decide) (by simp [Value.category]) (Nat.le_of_ble_eq_true rfl) (fun x hB => ?_)
  show V x RX3 cX3_readsKind 1 0 [some (.ref 43)] [] _
  refine V.aload_n (q := 1) dX3_readsKind_0 rfl rfl ?_
  refine V.getR (q := 4) dX3_readsKind_1 rfl kf_X3_35 rfl (by decide) rfl ?_
  refine V.iconst (q := 5) (v := nI 0) dX3_readsKind_4 rfl (by decide +kernel) ?_
  refine V.aload_n (q := 6) dX3_readsKind_5 rfl rfl ?_
  refine V.cvi0 (q := 9) dX3_readsKind_6 rfl kc_X3_78 rfl (by decide) rfl (hB.rm (by decide)) (Nat.le_of_ble_eq_true rfl) (m_sign hR) (fun r6 τ6 hp6 => ?_)
  obtain ⟨rfl, hz⟩ := hp6
  rw [hz]
  refine V.csi1 (q := 12) dX3_readsKind_9 rfl kc_X3_82 (hB.rm (by decide)) (Nat.le_of_ble_eq_true rfl) (m_kindOf (sgK m cs p) (sg_256 hR)) (fun r9 τ9 hp9 => ?_)
  obtain ⟨rfl, hz⟩ := hp9
  rw [hz]
  refine V.iastN (q := 13) dX3_readsKind_12 rfl rfl (by decide) (by omega) (by decide) ?_
  refine V.aload_n (q := 14) dX3_readsKind_13 rfl rfl ?_
  refine V.getR (q := 17) dX3_readsKind_14 rfl kf_X3_35 rfl (by decide) rfl ?_
  refine V.iconst (q := 18) (v := nI 0) dX3_readsKind_17 rfl (by decide +kernel) ?_
  refine V.ialdN (q := 19) dX3_readsKind_18 rfl rfl (by decide) (by omega) (by decide) (show _ = oI (-9) ((sgK m cs p).bind kdM) from w2_at) ?_
  rcases hb9 : (sgK m cs p).bind kdM with _ | k9
  · skip
    refine V.if_ge (t := 24) (q := 22) dX3_readsKind_19 (by decide) rfl  (fun c19 => absurd c19 (by decide +kernel)) (fun c19 => ?_)
    refine V.iconst (q := 23) (v := nI 0) dX3_readsKind_22 rfl (by decide +kernel) ?_
    exact V.ret_int hB dX3_readsKind_23 (by decide +kernel) ⟨_, rfl, Or.inr ⟨rfl, kdb_none hb9, hR.t, Gr.rf.t⟩⟩
  · have hk9 := kdb_some hb9
    have hk5 := kdM_5 hk9.2
    refine V.if_ge (t := 24) (q := 22) dX3_readsKind_19 (by decide) rfl  (fun c19 => ?_) (fun c19 => absurd c19 (fun h9 => h9 (Int32.not_lt.mp (nI_pos (by omega)))))
    refine V.aload_n (q := 25) dX3_readsKind_24 rfl rfl ?_
    refine V.dup (q := 26) dX3_readsKind_25 rfl rfl ?_
    refine V.getI (q := 29) dX3_readsKind_26 rfl kf_X3_75 rfl (by decide) rfl (show _ = nI p by rw [w2_ne (by decide)]; exact hR.2.2.1) ?_
    refine V.iconst (q := 30) (v := nI 1) dX3_readsKind_29 rfl (by decide +kernel) ?_
    refine V.iaddN (q := 31) dX3_readsKind_30 rfl ?_
    refine V.putI (q := 34) dX3_readsKind_31 rfl kp_X3_75 rfl (by decide) rfl rfl rfl ?_
    refine V.iconst (q := 35) (v := nI 1) dX3_readsKind_34 rfl (by decide +kernel) ?_
    exact V.ret_int hB dX3_readsKind_35 (by decide +kernel) ⟨_, rfl, Or.inl ⟨rfl, hk9.1, ⟨k9, hk9.2, by rw [w2_ne (by decide), w2_at]; rfl⟩, hR.t.p (by omega), Gr.rf.t.p, fun q hq => by rw [w2_ne (by decide), w2_nk hq]⟩⟩

