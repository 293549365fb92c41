theorem jump {P : Nat → Prop} (m : Nat) (h : ∀ p, p ≤ m → (∀ q, p < q → q ≤ m → P q) → P p) : ∀ p, p ≤ m → P p := by
  have key : ∀ k p, m + 1 - p ≤ k → p ≤ m → P p := by
    intro k
    induction k with
    | zero => intro p h1 h2; omega
    | succ k ih => intro p h1 h2; exact h p h2 (fun q h3 h4 => ih q (by omega) h4)
  exact fun p hp => key (m + 1 - p) p (Nat.le_refl _) hp
theorem dR_mr {m : Nat} {cs : Nat → Nat} : ∀ {f p s : Nat}, m ≤ p + f → dR m cs (f + 1) p s = dR m cs f p s
  | 0, p, s, h => by
    conv => lhs; unfold dR
    rw [if_neg (by omega)]; unfold dR; rfl
  | f + 1, p, s, h => by
    by_cases hp : p < m
    · cases hd : dueM s (cs p) with
      | none => rw [dR_n hp hd, dR_n hp hd]
      | some k => rw [dR_k hp hd, dR_k hp hd]; exact dR_mr (by omega)
    · conv => lhs; unfold dR
      rw [if_neg hp]
      unfold dR; rw [if_neg hp]
theorem ffO_at {m p : Nat} {cs : Nat → Nat} (h : Rn m cs 0 0 p 0) (hp : p ≤ m) (hm : m ≠ 0) : ffO m cs = dR m cs (m - p) p 0 := by
  unfold ffO
  rw [if_neg hm, ← h.2 (m - p), Nat.sub_zero, Nat.sub_add_cancel hp]
theorem ffO_no {m p j : Nat} {cs : Nat → Nat} (h : Rn m cs 0 0 p 0) (hp : p < m) (hd : ∀ f, m < p + f → dR m cs f p 0 = some j) : ffO m cs = some j := by
  rw [ffO_at h (by omega) (by omega), ← dR_mr (by omega)]
  exact hd _ (by omega)
theorem ffO_ok {m : Nat} {cs : Nat → Nat} (h : Rn m cs 0 0 m 0) (hm : m ≠ 0) : ffO m cs = none := by
  rw [ffO_at h (Nat.le_refl m) hm, Nat.sub_self]; rfl
theorem Rn.tr {m p s q t r u : Nat} {cs : Nat → Nat} (h : Rn m cs p s q t) (h2 : Rn m cs q t r u) : Rn m cs p s r u := by
  have a := h.1
  have b := h2.1
  refine ⟨by omega, fun f => ?_⟩
  rw [show f + (r - p) = (f + (r - q)) + (q - p) by omega, h.2, h2.2]
/-- how many statements end below place p -/
def n59 (cs : Nat → Nat) : Nat → Nat
  | 0 => 0
  | p + 1 => if cs p = 59 then n59 cs p + 1 else n59 cs p
theorem n59_le (cs : Nat → Nat) : ∀ p, n59 cs p ≤ p
  | 0 => Nat.le_refl 0
  | p + 1 => by
    have := n59_le cs p
    unfold n59; split <;> omega
theorem n59_no {cs : Nat → Nat} {p : Nat} : ∀ k, (∀ i, p ≤ i → i < p + k → cs i ≠ 59) → n59 cs (p + k) = n59 cs p
  | 0, _ => rfl
  | k + 1, h => by
    show (if cs (p + k) = 59 then n59 cs (p + k) + 1 else n59 cs (p + k)) = _
    rw [if_neg (h _ (by omega) (by omega))]
    exact n59_no k (fun i h1 h2 => h i h1 (by omega))
theorem n59_st {cs : Nat → Nat} {p q : Nat} (hpq : p + 3 < q) (hc : cs (q - 1) = 59) (h : ∀ i, p ≤ i → i < q - 1 → cs i ≠ 59) : n59 cs q = n59 cs p + 1 := by
  obtain ⟨k, rfl⟩ : ∃ k, q = p + k + 1 := ⟨q - 1 - p, by omega⟩
  rw [show p + k + 1 - 1 = p + k by omega] at hc h
  show (if cs (p + k) = 59 then n59 cs (p + k) + 1 else n59 cs (p + k)) = _
  rw [if_pos hc, n59_no k h]
theorem rdM_no {m : Nat} {cs : Nat → Nat} {n : Nat} {τ : Nat → Nat → Nat} {p : Nat} {z : Nat × Nat × Nat × (Nat → Nat → Nat)} (h0 : rdM m cs n τ p = .inr z) : ∀ k, p + k ≤ m → (∀ i, p ≤ i → i < p + k → cs i ≠ 59) → rdM m cs n τ (p + k) = .inr z
  | 0, _, _ => h0
  | k + 1, hm, h => by
    show rdM m cs n τ (p + k + 1) = _
    obtain ⟨st, k1, n1, τ1⟩ := z
    unfold rdM
    rw [rdM_no h0 k (by omega) (fun i h1 h2 => h i h1 (by omega))]
    dsimp only
    rw [chA_in (by omega), if_neg (h _ (by omega) (by omega))]
theorem rdM_st {m : Nat} {cs : Nat → Nat} {n : Nat} {τ : Nat → Nat → Nat} {p k n1 q : Nat} {τ1 : Nat → Nat → Nat} (h0 : rdM m cs n τ p = .inr (p, k, n1, τ1)) (hpq : p + 3 < q) (hqm : q ≤ m) (hc : cs (q - 1) = 59) (h : ∀ i, p ≤ i → i < q - 1 → cs i ≠ 59) : rdM m cs n τ q = (match stA m cs p n1 τ1 with
        | none => .inl p
        | some (n9, τ9) => .inr (q, k + 1, n9, τ9)) := by
  obtain ⟨j, rfl⟩ : ∃ j, q = p + j + 1 := ⟨q - 1 - p, by omega⟩
  rw [show p + j + 1 - 1 = p + j by omega] at hc h
  conv => lhs; unfold rdM
  rw [rdM_no h0 j (by omega) h]
  dsimp only
  rw [chA_in (by omega), if_pos hc]
  cases stA m cs p n1 τ1 with
  | none => rfl
  | some z => rfl
theorem twM_ff {m j n : Nat} {cs : Nat → Nat} {τ : Nat → Nat → Nat} (h : ffO m cs = some j) : twM m cs n τ = (-1000 - nI j, n, τ) := by
  unfold twM; rw [h]
theorem twM_f {m p n : Nat} {cs : Nat → Nat} {τ : Nat → Nat → Nat} (h : ffO m cs = none) (h2 : rdM m cs n τ m = .inl p) : twM m cs n τ = (-2000 - nI p, n, τ) := by
  unfold twM; rw [h, h2]
theorem twM_y {m st k n n1 : Nat} {cs : Nat → Nat} {τ τ1 : Nat → Nat → Nat} (h : ffO m cs = none) (h2 : rdM m cs n τ m = .inr (st, k, n1, τ1)) : twM m cs n τ = (nI k, n1, τ1) := by
  unfold twM; rw [h, h2]
/-- only the place, what is told and the row that is read change -/
def Gs (σ σ1 : Sg) : Prop := (∀ o, o ≠ 43 → o ≠ 47 → o ≠ 50 → σ1 o = σ o) ∧ ∀ k, k ≠ 11 → σ1 43 k = σ 43 k
theorem Gs.of {σ σ1 : Sg} (h : Gr σ σ1) : Gs σ σ1 := ⟨fun o a _ c => h.1 o a c, h.2⟩
theorem Gs.tr {σ σ1 σ2 : Sg} (h : Gs σ σ1) (h2 : Gs σ1 σ2) : Gs σ σ2 := ⟨fun o a b c => (h2.1 o a b c).trans (h.1 o a b c), fun k hk => (h2.2 k hk).trans (h.2 k hk)⟩
theorem Gs.r {σ σ1 : Sg} (h : ∀ o, o ≠ 47 → σ1 o = σ o) : Gs σ σ1 := ⟨fun o _ b _ => h o b, fun k _ => by rw [h 43 (by decide)]⟩
theorem RD.fr {σ σ1 : Sg} {m p : Nat} {cs : Nat → Nat} (h : RD σ m cs p) (hF : ∀ o, o ≠ 47 → σ1 o = σ o) : RD σ1 m cs p :=
  ⟨h.1, by rw [hF 43 (by decide)]; exact h.2.1, by rw [hF 43 (by decide)]; exact h.2.2.1, h.2.2.2.1, by rw [hF 49 (by decide)]; exact h.2.2.2.2⟩
theorem Gs.z {σ σ1 : Sg} (h : Gs σ σ1) : Gz σ σ1 := ⟨fun o ho => h.1 o (by omega) (by omega) (by omega), fun k hk => h.2 k (by omega)⟩
theorem Gs.y {σ σ1 : Sg} {n y : Nat} {τ : Nat → Nat → Nat} (h : Gs σ σ1) (hY : YA σ n y 6 6 τ) : YA σ1 n y 6 6 τ :=
  ⟨hY.1.fr (h.1 45 (by decide) (by decide) (by decide)), by rw [h.2 6 (by decide)]; exact hY.2.1, by rw [h.2 7 (by decide)]; exact hY.2.2⟩
-- reads
set_option maxHeartbeats 4000000 in
set_option maxRecDepth 100000 in
theorem m_reads {σ : Sg} {n y : Nat} {τ : Nat → Nat → Nat} {fl n2 y2 : Nat} {τ2 : Nat → Nat → Nat} {m : Nat} {cs : Nat → Nat} {rl : Nat} {ro rc : Nat → Nat} (hX : MR σ n y τ fl n2 y2 τ2 m cs rl ro rc) : Con 4 yX3_reads cX3_reads 5 (some .int) [.ref 43] σ (PI (fun r σ1 => r = (twM m cs n τ).1 ∧ MR σ1 (twM m cs n τ).2.1 y (twM m cs n τ).2.2 fl n2 y2 τ2 m cs rl ro rc ∧ Fm σ σ1)) := by
  refine Con.of (by decide) (by simp [Value.category]) (Nat.le_of_ble_eq_true rfl) (fun x hB => ?_)
  show V x RX3 cX3_reads 5 0 [some (.ref 43), none, none, none, none] [] _
  have hY := hX.now
  have hS := hY.s
  have hn6 := hS.n6
  have hy9 := hX.y9
  have hm64 := hX.tx.1
  have hR0 : ∀ p, p ≤ 100 → RD (w2 σ 43 11 (nI p)) m cs p := fun p hp => ⟨hX.tx.1, by rw [w2_nk (by decide)]; exact hX.tx.2.1, by rw [w2_at], hp, by rw [w2_ne (by decide)]; exact hX.tx.2.2⟩
  refine V.aload_n (q := 1) dX3_reads_0 rfl rfl ?_
  refine V.iconst (q := 2) (v := nI 0) dX3_reads_1 rfl (by decide +kernel) ?_
  refine V.putI (q := 5) dX3_reads_2 rfl kp_X3_75 rfl (by decide) rfl rfl rfl ?_
  refine V.iconst (q := 6) (v := nI 0) dX3_reads_5 rfl (by decide +kernel) ?_
  refine V.ist1 (q := 7) dX3_reads_6 rfl ?_
  have loop : ∀ p, p ≤ m → (p = 0 ∨ p < m) → Rn m cs 0 0 p 0 → ∀ σ1, RD σ1 m cs p → Gs σ σ1 → ∀ o2 o3 o4, V x RX3 cX3_reads 5 7 [some (.ref 43), some (.int (nI (n59 cs p))), o2, o3, o4] [] σ1 := by
    refine jump m (fun p hpm ih hp0 hn σ1 hR hG o2 o3 o4 => ?_)
    refine V.aload_n (q := 8) dX3_reads_7 rfl rfl ?_
    refine V.cvi0 (q := 11) dX3_reads_8 rfl kc_X3_100 rfl (by decide) rfl (hB.rm (by decide)) (Nat.le_of_ble_eq_true rfl) (m_readsStatement hR hpm) (fun r8 τ8 hp8 => ?_)
    rcases hp8 with ⟨rfl, q, hqm, hpq, hnq, hR2, hG2, hcq, h59, -⟩ | ⟨rfl, q, hqm, hR2, hG2, hfq⟩
    · have hG2s := hG.tr (Gs.of hG2)
      have hn2 := hn.tr hnq
      have e59 := n59_st hpq hcq h59
      have hl59 := n59_le cs p
      refine V.ifN_ne (t := 23) (q := 14) dX3_reads_11 (by decide) rfl (by omega) (fun c11 => ?_) (fun c11 => absurd c11 (by decide +kernel))
      refine V.inc1 (q := 26) dX3_reads_23 rfl (inc1 _) ?_
      refine V.aload_n (q := 27) dX3_reads_26 rfl rfl ?_
      refine V.getI (q := 30) dX3_reads_27 rfl kf_X3_75 rfl (by decide) rfl hR2.2.2.1 ?_
      refine V.aload_n (q := 31) dX3_reads_30 rfl rfl ?_
      refine V.getI (q := 34) dX3_reads_31 rfl kf_X3_68 rfl (by decide) rfl hR2.2.1 ?_
      refine V.icmpN_lt (t := 7) (q := 37) dX3_reads_34 (by decide) rfl (by omega) (by omega) (fun c34 => ?_) (fun c34 => ?_)
      · rw [← e59]
        exact ih q (by omega) hqm (Or.inr c34) hn2 _ hR2 hG2s _ _ _
      · have eq9 : m = q := by omega
        subst eq9
        have hffn := ffO_ok hn2 (by omega)
        rw [← e59]
        refine V.aload_n (q := 38) dX3_reads_37 rfl rfl ?_
        refine V.getR (q := 41) dX3_reads_38 rfl kf_X3_13 rfl (by decide) rfl ?_
        refine V.aload_n (q := 42) dX3_reads_41 rfl rfl ?_
        refine V.getR (q := 45) dX3_reads_42 rfl kf_X3_19 rfl (by decide) rfl ?_
        refine V.csv2 (q := 48) dX3_reads_45 rfl kc_X3_56 (hB.rm (by decide)) (Nat.le_of_ble_eq_true rfl) (m_lays (o1 := 45) (o2 := 47) rfl rfl (by decide) (by decide) (by decide)) (fun τ45 hp45 => ?_)
        obtain ⟨hL2, hF2⟩ := hp45
        have hS2 : SA τ45 47 n y τ := (hG2s.y hY).1.cp hL2
        have hG4 : Gs σ τ45 := hG2s.tr (Gs.r hF2)
        have hR4 := hR2.fr hF2
        refine V.aload_n (q := 49) dX3_reads_48 rfl rfl ?_
        refine V.iconst (q := 50) (v := nI 0) dX3_reads_49 rfl (by decide +kernel) ?_
        refine V.putI (q := 53) dX3_reads_50 rfl kp_X3_75 rfl (by decide) rfl rfl rfl ?_
        have loop2 : ∀ p, p ≤ m → Rn m cs 0 0 p 0 → ∀ n1 τ1, rdM m cs n τ p = .inr (p, n59 cs p, n1, τ1) → ∀ σ3, RD σ3 m cs p → SA σ3 47 n1 y τ1 → Gs σ σ3 → ∀ o2 o3 o4, V x RX3 cX3_reads 5 53 [some (.ref 43), some (.int (nI (n59 cs m))), o2, o3, o4] [] σ3 := by
          refine jump m (fun p hpm ih2 hn n1 τ1 hrd σ3 hR3 hS3 hG3 o2 o3 o4 => ?_)
          have hn59p := n59_le cs p
          refine V.aload_n (q := 54) dX3_reads_53 rfl rfl ?_
          refine V.getI (q := 57) dX3_reads_54 rfl kf_X3_75 rfl (by decide) rfl hR3.2.2.1 ?_
          refine V.aload_n (q := 58) dX3_reads_57 rfl rfl ?_
          refine V.getI (q := 61) dX3_reads_58 rfl kf_X3_68 rfl (by decide) rfl hR3.2.1 ?_
          refine V.icmpN_ge (t := 97) (q := 64) dX3_reads_61 (by decide) rfl (by omega) (by omega) (fun c61 => ?_) (fun c61 => ?_)
          · have ep : m = p := by omega
            subst ep
            refine V.aload_n (q := 98) dX3_reads_97 rfl rfl ?_
            refine V.getR (q := 101) dX3_reads_98 rfl kf_X3_19 rfl (by decide) rfl ?_
            refine V.aload_n (q := 102) dX3_reads_101 rfl rfl ?_
            refine V.getR (q := 105) dX3_reads_102 rfl kf_X3_13 rfl (by decide) rfl ?_
            refine V.csv2 (q := 108) dX3_reads_105 rfl kc_X3_56 (hB.rm (by decide)) (Nat.le_of_ble_eq_true rfl) (m_lays (o1 := 47) (o2 := 45) rfl rfl (by decide) (by decide) (by decide)) (fun τ105 hp105 => ?_)
            obtain ⟨hL7, hF7⟩ := hp105
            have hY7 : YA τ105 n1 y 6 6 τ1 := ⟨hS3.cp hL7, by rw [hF7 43 (by decide)]; exact (hG3.y hY).2⟩
            have hG7 := hG3.z.c hF7 (by decide)
            refine V.iload_n (q := 109) dX3_reads_108 rfl rfl ?_
            exact V.ret_int hB dX3_reads_109 rfl ⟨_, rfl, (by
    rw [twM_y hffn hrd]
    exact ⟨rfl, hX.gz hY7 hy9 hG7, fun o ho => hG7.1 o (Or.inl ho)⟩)⟩
          · refine V.aload_n (q := 65) dX3_reads_64 rfl rfl ?_
            refine V.getI (q := 68) dX3_reads_65 rfl kf_X3_75 rfl (by decide) rfl hR3.2.2.1 ?_
            refine V.ist2 (q := 69) dX3_reads_68 rfl ?_
            refine V.aload_n (q := 70) dX3_reads_69 rfl rfl ?_
            refine V.cvi0 (q := 73) dX3_reads_70 rfl kc_X3_78 rfl (by decide) rfl (hB.rm (by decide)) (Nat.le_of_ble_eq_true rfl) (m_sign hR3) (fun r70 τ70 hp70 => ?_)
            obtain ⟨rfl, hz⟩ := hp70
            rw [hz, show oI (-1) (sgK m cs p) = nI (cs p) by unfold sgK; rw [if_pos c61]; rfl]
            refine V.ist3 (q := 74) dX3_reads_73 rfl ?_
            refine V.aload_n (q := 75) dX3_reads_74 rfl rfl ?_
            refine V.cvi0 (q := 78) dX3_reads_75 rfl kc_X3_100 rfl (by decide) rfl (hB.rm (by decide)) (Nat.le_of_ble_eq_true rfl) (m_readsStatement hR3 hpm) (fun r75 τ75 hp75 => ?_)
            rcases hp75 with ⟨rfl, q2, hqm2, hpq2, hnq2, hR5, hG5, hcq2, h592, hT5⟩ | ⟨rfl, q2, hqm2, hR5, hG5, hfq2⟩
            · have hG5s := hG3.tr (Gs.of hG5)
              have hS5 := hS3.fr (hG5.1 47 (by decide) (by decide))
              have e592 := n59_st hpq2 hcq2 h592
              have hrd2 := rdM_st hrd hpq2 hqm2 hcq2 h592
              refine V.ist4 (q := 80) dX3_reads_78 rfl ?_
              refine V.aload_n (q := 81) dX3_reads_80 rfl rfl ?_
              refine V.iload_n (q := 82) dX3_reads_81 rfl rfl ?_
              refine V.cvi1 (q := 85) dX3_reads_82 rfl kc_X3_103 rfl (by decide) rfl (hB.rm (by decide)) (Nat.le_of_ble_eq_true rfl) (m_comes hS5 hT5 hqm2 (fun i hi => (hR5.2.2.2.2 i hi).2)) (fun r82 τ82 hp82 => ?_)
              rcases hp82 with ⟨rfl, hst, hz⟩ | ⟨rfl, n6, τ6, hst, hS6, hF6⟩
              · rw [hz]
                have hrd3 : rdM m cs n τ q2 = .inl p := by rw [hrd2, hst]
                refine V.ifN_ne (t := 94) (q := 88) dX3_reads_85 (by decide) rfl (by omega) (fun c85 => absurd c85 (by decide +kernel)) (fun c85 => ?_)
                refine V.sipush (q := 91) (v := (-2000)) dX3_reads_88 rfl (by decide +kernel) ?_
                refine V.iload_n (q := 92) dX3_reads_91 rfl rfl ?_
                refine V.isub (q := 93) dX3_reads_92 rfl ?_
                exact V.ret_int hB dX3_reads_93 rfl ⟨_, rfl, (by
    rw [twM_f hffn (rdM_f hrd3 hqm2)]
    exact ⟨rfl, hX.gz (hG5s.y hY) hy9 hG5s.z, fun o ho => hG5s.1 o (by omega) (by omega) (by omega)⟩)⟩
              · have hrd3 : rdM m cs n τ q2 = .inr (q2, n59 cs q2, n6, τ6) := by rw [hrd2, hst, e592]
                refine V.ifN_ne (t := 94) (q := 88) dX3_reads_85 (by decide) rfl (by omega) (fun c85 => ?_) (fun c85 => absurd c85 (by decide +kernel))
                refine V.goto (q := 53) dX3_reads_94 (by decide) ?_
                exact ih2 q2 (by omega) hqm2 (hn.tr hnq2) n6 τ6 hrd3 _ (hR5.fr hF6) hS6 (hG5s.tr (Gs.r hF6)) _ _ _
            · exfalso
              rcases hfq2 with ⟨h1, -⟩ | ⟨h1, h2⟩
              · omega
              · have h9 := ffO_no hn h1 h2
                rw [hffn] at h9; cases h9
        exact loop2 0 (Nat.zero_le m) Rn.rf n τ rfl _ (hR4.p (by decide)) (hS2.ww (by decide)) (hG4.tr (Gs.of Gr.rf.p)) _ _ _
    · have hG2s := hG.tr (Gs.of hG2)
      have hff : ffO m cs = some q := by
        rcases hfq with ⟨h1, h2⟩ | ⟨h1, h2⟩
        · have e0 : q = 0 := by omega
          have e1 : m = 0 := by omega
          rw [e0, e1]; rfl
        · exact ffO_no hn h1 h2
      refine V.ifN_ne (t := 23) (q := 14) dX3_reads_11 (by decide) rfl (by omega) (fun c11 => absurd c11 (by decide +kernel)) (fun c11 => ?_)
      refine V.sipush (q := 17) (v := (-1000)) dX3_reads_14 rfl (by decide +kernel) ?_
      refine V.aload_n (q := 18) dX3_reads_17 rfl rfl ?_
      refine V.getI (q := 21) dX3_reads_18 rfl kf_X3_75 rfl (by decide) rfl hR2.2.2.1 ?_
      refine V.isub (q := 22) dX3_reads_21 rfl ?_
      exact V.ret_int hB dX3_reads_22 rfl ⟨_, rfl, (by
    rw [twM_ff hff]
    exact ⟨rfl, hX.gz (hG2s.y hY) hy9 hG2s.z, fun o ho => hG2s.1 o (by omega) (by omega) (by omega)⟩)⟩
  exact loop 0 (Nat.zero_le m) (Or.inl rfl) Rn.rf _ (hR0 0 (by decide)) (Gs.of Gr.rf.p) _ _ _

-- town
set_option maxHeartbeats 4000000 in
set_option maxRecDepth 100000 in
theorem m_town {σ : Sg} {n y : Nat} {τ : Nat → Nat → Nat} {fl n2 y2 : Nat} {τ2 : Nat → Nat → Nat} {m : Nat} {cs : Nat → Nat} {rl : Nat} {ro rc : Nat → Nat} (hX : MR σ n y τ fl n2 y2 τ2 m cs rl ro rc) : Con 5 yX3_town cX3_town 2 (some .int) [.ref 43] σ (PI (fun r σ1 => r = (twM m cs n τ).1 ∧ MR σ1 (twM m cs n τ).2.1 y (twM m cs n τ).2.2 fl n2 y2 τ2 0 cs rl ro rc ∧ Fm σ σ1)) := by
  refine Con.of (by decide) (by simp [Value.category]) (Nat.le_of_ble_eq_true rfl) (fun x hB => ?_)
  show V x RX3 cX3_town 2 0 [some (.ref 43), none] [] _
  refine V.aload_n (q := 1) dX3_town_0 rfl rfl ?_
  refine V.cvi0 (q := 4) dX3_town_1 rfl kc_X3_106 rfl (by decide) rfl (hB.rm (by decide)) (Nat.le_of_ble_eq_true rfl) (m_reads hX) (fun r1 τ1 hp1 => ?_)
  obtain ⟨rfl, hX1, hF1⟩ := hp1
  refine V.ist1 (q := 5) dX3_town_4 rfl ?_
  refine V.aload_n (q := 6) dX3_town_5 rfl rfl ?_
  refine V.iconst (q := 7) (v := nI 0) dX3_town_6 rfl (by decide +kernel) ?_
  refine V.putI (q := 10) dX3_town_7 rfl kp_X3_68 rfl (by decide) rfl rfl rfl ?_
  refine V.iload_n (q := 11) dX3_town_10 rfl rfl ?_
  exact V.ret_int hB dX3_town_11 rfl ⟨_, rfl, ⟨rfl, hX1.clr, fun o ho => by rw [w2_ne (by omega)]; exact hF1 o ho⟩⟩

