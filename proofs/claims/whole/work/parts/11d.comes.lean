theorem chA_in {m p : Nat} {cs : Nat → Nat} (h : p < m) : chA m cs p = cs p := by unfold chA; rw [if_pos h]
theorem stA_s {m p n : Nat} {cs : Nat → Nat} {τ : Nat → Nat → Nat} (h : p + 6 ≤ m) (hc : cs p = 115) : stA m cs p n τ = if n = 6 ∨ 3 < dgV (cs (p + 3)) ∨ 4 < dgV (cs (p + 4)) then none else some (n + 1, tellM n τ ((kdM (cs (p + 1))).getD 0) (dgV (cs (p + 2))) (dgV (cs (p + 3))) (dgV (cs (p + 4)))) := by
  unfold stA
  rw [chA_in (show p < m by omega), chA_in (show p + 1 < m by omega), chA_in (show p + 2 < m by omega), chA_in (show p + 3 < m by omega), chA_in (show p + 4 < m by omega), if_pos hc]
theorem stA_m {m p n : Nat} {cs : Nat → Nat} {τ : Nat → Nat → Nat} (h : p + 4 ≤ m) (hc : cs p = 109) : stA m cs p n τ = if dgV (cs (p + 1)) < n ∧ dgV (cs (p + 2)) < n then some (n, setF τ 5 (upN (τ 5) (dgV (cs (p + 1))) (dgV (cs (p + 2))))) else none := by
  unfold stA
  rw [chA_in (show p < m by omega), chA_in (show p + 1 < m by omega), chA_in (show p + 2 < m by omega), if_neg (by omega), if_pos hc]
theorem stA_p {m p n : Nat} {cs : Nat → Nat} {τ : Nat → Nat → Nat} (h : p + 5 ≤ m) (hc : cs p = 112) : stA m cs p n τ = if dgV (cs (p + 1)) < n then some (n, setF τ 4 (upN (τ 4) (dgV (cs (p + 1))) (dg2 (cs (p + 3)) (cs (p + 4))))) else none := by
  unfold stA
  rw [chA_in (show p < m by omega), chA_in (show p + 1 < m by omega), chA_in (show p + 3 < m by omega), chA_in (show p + 4 < m by omega), if_neg (by omega), if_neg (by omega)]
theorem addM_wf {n a b c d : Nat} {τ : Nat → Nat → Nat} (h : WFt n τ) (ha : a ≤ 5) (hb : b ≤ 9) (hc : c ≤ 3) (hd : d ≤ 4) : WFt (n + 1) (addM n τ a b c d) := fun i hi => by
  by_cases hin : i = n
  · subst hin
    simp [addM, adV]; omega
  · have := h i (by omega)
    simp only [addM, if_neg hin]; omega
/-- the read row, told a street more -/
def nwS (σ : Sg) (n : Nat) : Sg := w2 (w2 (w2 σ 47 (2 + 7 * n + 4) (nI 9)) 47 (2 + 7 * n + 5) (nI 0)) 47 (2 + 7 * n + 6) (nI 0)
theorem nwS_lo {σ : Sg} {n k : Nat} (h : k < 2 + 7 * n + 4) : nwS σ n 47 k = σ 47 k := by
  unfold nwS; rw [w2_nk (by omega), w2_nk (by omega), w2_nk (by omega)]
theorem SA.nw {σ σ1 : Sg} {n y a b c d : Nat} {τ : Nat → Nat → Nat} (h : SA σ 47 n y τ) (hlo : ∀ j, j < 2 + 7 * n → σ1 47 j = σ 47 j) (h0 : σ1 47 (2 + 7 * n + 0) = nI a) (h1 : σ1 47 (2 + 7 * n + 1) = nI b) (h2 : σ1 47 (2 + 7 * n + 2) = nI c) (h3 : σ1 47 (2 + 7 * n + 3) = nI d) (hn : n < 6) (ha : a ≤ 5) (hb : b ≤ 9) (hc : c ≤ 3) (hd : d ≤ 4) : SA (w2 (nwS σ1 n) 47 0 (nI (n + 1))) 47 (n + 1) y (addM n τ a b c d) := by
  refine ⟨by omega, h.2.1, by rw [w2_at], ?_, fun i hi f hf => ?_, addM_wf h.w ha hb hc hd⟩
  · rw [w2_nk (by decide), nwS_lo (by omega), hlo 1 (by omega)]; exact h.r
  · rw [w2_nk (by omega)]
    by_cases hin : i = n
    · subst hin
      unfold nwS
      have e : addM i τ a b c d f i = adV a b c d f := by unfold addM; rw [if_pos rfl]
      rw [e]
      have hf2 : f = 0 ∨ f = 1 ∨ f = 2 ∨ f = 3 ∨ f = 4 ∨ f = 5 ∨ f = 6 := by omega
      rcases hf2 with rfl | rfl | rfl | rfl | rfl | rfl | rfl
      · rw [w2_nk (by omega), w2_nk (by omega), w2_nk (by omega)]; exact h0
      · rw [w2_nk (by omega), w2_nk (by omega), w2_nk (by omega)]; exact h1
      · rw [w2_nk (by omega), w2_nk (by omega), w2_nk (by omega)]; exact h2
      · rw [w2_nk (by omega), w2_nk (by omega), w2_nk (by omega)]; exact h3
      · rw [w2_nk (by omega), w2_nk (by omega), w2_at]; rfl
      · rw [w2_nk (by omega), w2_at]; rfl
      · rw [w2_at]; rfl
    · have e : addM n τ a b c d f i = τ f i := by unfold addM; rw [if_neg hin]
      rw [e, nwS_lo (by omega), hlo _ (by omega)]
      exact h.a (by omega) f hf
-- comes
set_option maxHeartbeats 4000000 in
set_option maxRecDepth 100000 in
theorem m_comes {σ : Sg} {m p q n y : Nat} {cs : Nat → Nat} {τ : Nat → Nat → Nat} (hS : SA σ 47 n y τ) (hT : TO σ cs p q) (hq : q ≤ m) (hcs : ∀ i, i < m → cs i < 256) : Con 2 yX3_comes cX3_comes 5 (some .boolean) [.ref 43, .int (nI (cs p))] σ (PI (fun r σ1 => (r = nI 0 ∧ stA m cs p n τ = none ∧ σ1 = σ) ∨ (r = nI 1 ∧ ∃ n1 τ1, stA m cs p n τ = some (n1, τ1) ∧ SA σ1 47 n1 y τ1 ∧ ∀ o, o ≠ 47 → σ1 o = σ o))) := by
  refine Con.of (by decide) (by simp [Value.category]) (Nat.le_of_ble_eq_true rfl) (fun x hB => ?_)
  show V x RX3 cX3_comes 5 0 [some (.ref 43), some (.int (nI (cs p))), none, none, none] [] _
  have hn6 := hS.n6
  rcases hT with ⟨hc0, hq0, t0, t1, t2, t3⟩ | ⟨hc0, hq0, t0, t1⟩ | ⟨hc0, t0, hq1⟩
  · have hd2 := dgV_le (cs (p + 2))
    have hd3 := dgV_le (cs (p + 3))
    have hd4 := dgV_le (cs (p + 4))
    have hk5 := kdM_le (cs (p + 1)) (hcs _ (by omega))
    rw [hc0]
    refine V.aload_n (q := 1) dX3_comes_0 rfl rfl ?_
    refine V.getR (q := 4) dX3_comes_1 rfl kf_X3_35 rfl (by decide) rfl ?_
    refine V.iconst (q := 5) (v := nI 0) dX3_comes_4 rfl (by decide +kernel) ?_
    refine V.ialdN (q := 6) dX3_comes_5 rfl rfl (by decide) (by omega) (by decide) t0 ?_
    refine V.ist2 (q := 7) dX3_comes_6 rfl ?_
    refine V.iload_n (q := 8) dX3_comes_7 rfl rfl ?_
    refine V.lookup (q := 36) (off := 28) dX3_comes_8 (by decide) (by decide +kernel) (by decide) ?_
    refine V.aload_n (q := 37) dX3_comes_36 rfl rfl ?_
    refine V.getR (q := 40) dX3_comes_37 rfl kf_X3_19 rfl (by decide) rfl ?_
    refine V.iconst (q := 41) (v := nI 0) dX3_comes_40 rfl (by decide +kernel) ?_
    refine V.ialdN (q := 42) dX3_comes_41 rfl rfl (by decide) (by omega) (by decide) hS.c ?_
    refine V.ist3 (q := 43) dX3_comes_42 rfl ?_
    refine V.aload_n (q := 44) dX3_comes_43 rfl rfl ?_
    refine V.getR (q := 47) dX3_comes_44 rfl kf_X3_35 rfl (by decide) rfl ?_
    refine V.iconst (q := 48) (v := nI 2) dX3_comes_47 rfl (by decide +kernel) ?_
    refine V.ialdN (q := 49) dX3_comes_48 rfl rfl (by decide) (by omega) (by decide) t2 ?_
    refine V.iconst (q := 50) (v := nI 3) dX3_comes_49 rfl (by decide +kernel) ?_
    refine V.icmpN_gt (t := 69) (q := 53) dX3_comes_50 (by decide) rfl (by omega) (by omega) (fun c50 => ?_) (fun c50 => ?_)
    · refine V.iconst (q := 70) (v := nI 0) dX3_comes_69 rfl (by decide +kernel) ?_
      exact V.ret_int hB dX3_comes_70 (by decide +kernel) ⟨_, rfl, Or.inl ⟨rfl, by rw [stA_s (by omega) hc0, if_pos (by omega)], rfl⟩⟩
    · refine V.aload_n (q := 54) dX3_comes_53 rfl rfl ?_
      refine V.getR (q := 57) dX3_comes_54 rfl kf_X3_35 rfl (by decide) rfl ?_
      refine V.iconst (q := 58) (v := nI 3) dX3_comes_57 rfl (by decide +kernel) ?_
      refine V.ialdN (q := 59) dX3_comes_58 rfl rfl (by decide) (by omega) (by decide) t3 ?_
      refine V.iconst (q := 60) (v := nI 4) dX3_comes_59 rfl (by decide +kernel) ?_
      refine V.icmpN_gt (t := 69) (q := 63) dX3_comes_60 (by decide) rfl (by omega) (by omega) (fun c60 => ?_) (fun c60 => ?_)
      · refine V.iconst (q := 70) (v := nI 0) dX3_comes_69 rfl (by decide +kernel) ?_
        exact V.ret_int hB dX3_comes_70 (by decide +kernel) ⟨_, rfl, Or.inl ⟨rfl, by rw [stA_s (by omega) hc0, if_pos (by omega)], rfl⟩⟩
      · refine V.iload_n (q := 64) dX3_comes_63 rfl rfl ?_
        refine V.bipush (q := 66) (v := nI 6) dX3_comes_64 rfl (by decide +kernel) ?_
        refine V.icmpN_ne (t := 71) (q := 69) dX3_comes_66 (by decide) rfl (by omega) (by omega) (fun c66 => ?_) (fun c66 => ?_)
        · refine V.iconst (q := 72) (v := nI 0) dX3_comes_71 rfl (by decide +kernel) ?_
          refine V.ist4 (q := 74) dX3_comes_72 rfl ?_
          have loop : ∀ g, g ≤ 4 → ∀ σ1, (∀ q, q < g → σ1 47 (2 + 7 * n + q) = σ 50 q) → (∀ j, j < 2 + 7 * n → σ1 47 j = σ 47 j) → (∀ o, o ≠ 47 → σ1 o = σ o) → V x RX3 cX3_comes 5 74 [some (.ref 43), some (.int (nI 115)), some (.int (nI ((kdM (cs (p + 1))).getD 0))), some (.int (nI n)), some (.int (nI g))] [] σ1 := by
            refine down 4 (fun g hg ih σ1 hv hlo hF => ?_)
            refine V.iload (q := 76) dX3_comes_74 rfl rfl ?_
            refine V.iconst (q := 77) (v := nI 4) dX3_comes_76 rfl (by decide +kernel) ?_
            refine V.icmpN_ge (t := 103) (q := 80) dX3_comes_77 (by decide) rfl (by omega) (by omega) (fun c77 => ?_) (fun c77 => ?_)
            · have eg : g = 4 := by omega
              subst eg
              refine V.aload_n (q := 104) dX3_comes_103 rfl rfl ?_
              refine V.getR (q := 107) dX3_comes_104 rfl kf_X3_19 rfl (by decide) rfl ?_
              refine V.iload_n (q := 108) dX3_comes_107 rfl rfl ?_
              refine V.iconst (q := 109) (v := nI 4) dX3_comes_108 rfl (by decide +kernel) ?_
              refine V.bipush (q := 111) (v := nI 9) dX3_comes_109 rfl (by decide +kernel) ?_
              refine V.csv4 (q := 114) dX3_comes_111 rfl kc_X3_96 (hB.rm (by decide)) (Nat.le_of_ble_eq_true rfl) (m_setIn (k := 4) (by omega)) (fun τ111 hp111 => ?_)
              subst hp111
              refine V.aload_n (q := 115) dX3_comes_114 rfl rfl ?_
              refine V.getR (q := 118) dX3_comes_115 rfl kf_X3_19 rfl (by decide) rfl ?_
              refine V.iload_n (q := 119) dX3_comes_118 rfl rfl ?_
              refine V.iconst (q := 120) (v := nI 5) dX3_comes_119 rfl (by decide +kernel) ?_
              refine V.iconst (q := 121) (v := nI 0) dX3_comes_120 rfl (by decide +kernel) ?_
              refine V.csv4 (q := 124) dX3_comes_121 rfl kc_X3_96 (hB.rm (by decide)) (Nat.le_of_ble_eq_true rfl) (m_setIn (k := 5) (by omega)) (fun τ121 hp121 => ?_)
              subst hp121
              refine V.aload_n (q := 125) dX3_comes_124 rfl rfl ?_
              refine V.getR (q := 128) dX3_comes_125 rfl kf_X3_19 rfl (by decide) rfl ?_
              refine V.iload_n (q := 129) dX3_comes_128 rfl rfl ?_
              refine V.bipush (q := 131) (v := nI 6) dX3_comes_129 rfl (by decide +kernel) ?_
              refine V.iconst (q := 132) (v := nI 0) dX3_comes_131 rfl (by decide +kernel) ?_
              refine V.csv4 (q := 135) dX3_comes_132 rfl kc_X3_96 (hB.rm (by decide)) (Nat.le_of_ble_eq_true rfl) (m_setIn (k := 6) (by omega)) (fun τ132 hp132 => ?_)
              subst hp132
              have en0 : nwS σ1 n 47 0 = nI n := by rw [nwS_lo (by omega), hlo 0 (by omega)]; exact hS.c
              refine V.iload_n (q := 136) dX3_comes_135 rfl rfl ?_
              refine V.ifN_le (t := 169) (q := 139) dX3_comes_136 (by decide) rfl (by omega) (fun c136 => ?_) (fun c136 => ?_)
              · refine V.aload_n (q := 170) dX3_comes_169 rfl rfl ?_
                refine V.getR (q := 173) dX3_comes_170 rfl kf_X3_19 rfl (by decide) rfl ?_
                refine V.iconst (q := 174) (v := nI 0) dX3_comes_173 rfl (by decide +kernel) ?_
                refine V.dup2 (q := 175) dX3_comes_174 rfl rfl rfl ?_
                refine V.ialdN (q := 176) dX3_comes_175 rfl rfl (by decide) (by omega) (by decide) (show _ = nI n from en0) ?_
                refine V.iconst (q := 177) (v := nI 1) dX3_comes_176 rfl (by decide +kernel) ?_
                refine V.iaddN (q := 178) dX3_comes_177 rfl ?_
                refine V.iastN (q := 179) dX3_comes_178 rfl rfl (by decide) (by omega) (by decide) ?_
                refine V.iconst (q := 180) (v := nI 1) dX3_comes_179 rfl (by decide +kernel) ?_
                exact V.ret_int hB dX3_comes_180 (by decide +kernel) ⟨_, rfl, (by
      refine Or.inr ⟨rfl, n + 1, _, by rw [stA_s (by omega) hc0, if_neg (by omega)], ?_, fun o ho => by rw [w2_ne ho, w2_ne ho, w2_ne ho, w2_ne ho]; exact hF o ho⟩
      refine (hS.nw hlo ((hv 0 (by decide)).trans t0) ((hv 1 (by decide)).trans t1) ((hv 2 (by decide)).trans t2) ((hv 3 (by decide)).trans t3) (by omega) hk5 (dgV_le _) c50 c60).cg (fun f hf i hi => ?_)
      unfold tellM; rw [if_neg (by omega)])⟩
              · have hm5 := (hS.w (n - 1) (by omega)).2.2.2.2.2.1
                refine V.aload_n (q := 140) dX3_comes_139 rfl rfl ?_
                refine V.getR (q := 143) dX3_comes_140 rfl kf_X3_19 rfl (by decide) rfl ?_
                refine V.iconst (q := 144) (v := nI 2) dX3_comes_143 rfl (by decide +kernel) ?_
                refine V.bipush (q := 146) (v := nI 7) dX3_comes_144 rfl (by decide +kernel) ?_
                refine V.iload_n (q := 147) dX3_comes_146 rfl rfl ?_
                refine V.iconst (q := 148) (v := nI 1) dX3_comes_147 rfl (by decide +kernel) ?_
                refine V.isubN (q := 149) dX3_comes_148 rfl (by omega) ?_
                refine V.imulN (q := 150) dX3_comes_149 rfl ?_
                refine V.iaddN (q := 151) dX3_comes_150 rfl ?_
                refine V.iconst (q := 152) (v := nI 5) dX3_comes_151 rfl (by decide +kernel) ?_
                refine V.iaddN (q := 153) dX3_comes_152 rfl ?_
                refine V.ialdN (q := 154) dX3_comes_153 rfl rfl (by decide) (by omega) (by decide) (show _ = nI (τ 5 (n - 1)) from (nwS_lo (σ := σ1) (n := n) (by omega)).trans ((hlo _ (by omega)).trans (hS.a (by omega) 5 (by decide)))) ?_
                refine V.ifN_ne (t := 169) (q := 157) dX3_comes_154 (by decide) rfl (by omega) (fun c154 => ?_) (fun c154 => ?_)
                · refine V.aload_n (q := 170) dX3_comes_169 rfl rfl ?_
                  refine V.getR (q := 173) dX3_comes_170 rfl kf_X3_19 rfl (by decide) rfl ?_
                  refine V.iconst (q := 174) (v := nI 0) dX3_comes_173 rfl (by decide +kernel) ?_
                  refine V.dup2 (q := 175) dX3_comes_174 rfl rfl rfl ?_
                  refine V.ialdN (q := 176) dX3_comes_175 rfl rfl (by decide) (by omega) (by decide) (show _ = nI n from en0) ?_
                  refine V.iconst (q := 177) (v := nI 1) dX3_comes_176 rfl (by decide +kernel) ?_
                  refine V.iaddN (q := 178) dX3_comes_177 rfl ?_
                  refine V.iastN (q := 179) dX3_comes_178 rfl rfl (by decide) (by omega) (by decide) ?_
                  refine V.iconst (q := 180) (v := nI 1) dX3_comes_179 rfl (by decide +kernel) ?_
                  exact V.ret_int hB dX3_comes_180 (by decide +kernel) ⟨_, rfl, (by
      refine Or.inr ⟨rfl, n + 1, _, by rw [stA_s (by omega) hc0, if_neg (by omega)], ?_, fun o ho => by rw [w2_ne ho, w2_ne ho, w2_ne ho, w2_ne ho]; exact hF o ho⟩
      refine (hS.nw hlo ((hv 0 (by decide)).trans t0) ((hv 1 (by decide)).trans t1) ((hv 2 (by decide)).trans t2) ((hv 3 (by decide)).trans t3) (by omega) hk5 (dgV_le _) c50 c60).cg (fun f hf i hi => ?_)
      unfold tellM; rw [if_neg (fun h9 => c154 h9.2)])⟩
                · refine V.aload_n (q := 158) dX3_comes_157 rfl rfl ?_
                  refine V.getR (q := 161) dX3_comes_158 rfl kf_X3_19 rfl (by decide) rfl ?_
                  refine V.iload_n (q := 162) dX3_comes_161 rfl rfl ?_
                  refine V.iconst (q := 163) (v := nI 1) dX3_comes_162 rfl (by decide +kernel) ?_
                  refine V.isubN (q := 164) dX3_comes_163 rfl (by omega) ?_
                  refine V.iconst (q := 165) (v := nI 5) dX3_comes_164 rfl (by decide +kernel) ?_
                  refine V.iload_n (q := 166) dX3_comes_165 rfl rfl ?_
                  refine V.csv4 (q := 169) dX3_comes_166 rfl kc_X3_96 (hB.rm (by decide)) (Nat.le_of_ble_eq_true rfl) (m_setIn (k := 5) (by omega)) (fun τ166 hp166 => ?_)
                  subst hp166
                  refine V.aload_n (q := 170) dX3_comes_169 rfl rfl ?_
                  refine V.getR (q := 173) dX3_comes_170 rfl kf_X3_19 rfl (by decide) rfl ?_
                  refine V.iconst (q := 174) (v := nI 0) dX3_comes_173 rfl (by decide +kernel) ?_
                  refine V.dup2 (q := 175) dX3_comes_174 rfl rfl rfl ?_
                  refine V.ialdN (q := 176) dX3_comes_175 rfl rfl (by decide) (by omega) (by decide) (show _ = nI n by rw [w2_nk (by omega)]; exact en0) ?_
                  refine V.iconst (q := 177) (v := nI 1) dX3_comes_176 rfl (by decide +kernel) ?_
                  refine V.iaddN (q := 178) dX3_comes_177 rfl ?_
                  refine V.iastN (q := 179) dX3_comes_178 rfl rfl (by decide) (by omega) (by decide) ?_
                  refine V.iconst (q := 180) (v := nI 1) dX3_comes_179 rfl (by decide +kernel) ?_
                  exact V.ret_int hB dX3_comes_180 (by decide +kernel) ⟨_, rfl, (by
      refine Or.inr ⟨rfl, n + 1, _, by rw [stA_s (by omega) hc0, if_neg (by omega)], ?_, fun o ho => by rw [w2_ne ho, w2_ne ho, w2_ne ho, w2_ne ho, w2_ne ho]; exact hF o ho⟩
      rw [w2_comm (o := 47) (k := 2 + 7 * (n - 1) + 5) (o1 := 47) (k1 := 0) (by omega)]
      refine ((hS.nw hlo ((hv 0 (by decide)).trans t0) ((hv 1 (by decide)).trans t1) ((hv 2 (by decide)).trans t2) ((hv 3 (by decide)).trans t3) (by omega) hk5 (dgV_le _) c50 c60).wr (f := 5) (k := n - 1) (v := n) (by decide) (by omega) (by unfold okF; omega)).cg (fun f hf i hi => ?_)
      unfold tellM; rw [if_pos ⟨c136, c154⟩])⟩
            · refine V.aload_n (q := 81) dX3_comes_80 rfl rfl ?_
              refine V.getR (q := 84) dX3_comes_81 rfl kf_X3_19 rfl (by decide) rfl ?_
              refine V.iload_n (q := 85) dX3_comes_84 rfl rfl ?_
              refine V.iload (q := 87) dX3_comes_85 rfl rfl ?_
              refine V.aload_n (q := 88) dX3_comes_87 rfl rfl ?_
              refine V.getR (q := 91) dX3_comes_88 rfl kf_X3_35 rfl (by decide) rfl ?_
              refine V.iload (q := 93) dX3_comes_91 rfl rfl ?_
              refine V.ialdN (q := 94) dX3_comes_93 rfl rfl (by decide) (by omega) (by decide) (show _ = σ 50 g by rw [hF 50 (by decide)]) ?_
              refine V.csv4 (q := 97) dX3_comes_94 rfl kc_X3_96 (hB.rm (by decide)) (Nat.le_of_ble_eq_true rfl) (m_setIn (by omega)) (fun τ94 hp94 => ?_)
              subst hp94
              refine V.inc4 (q := 100) dX3_comes_97 rfl (inc1 _) ?_
              refine V.goto (q := 74) dX3_comes_100 (by decide) ?_
              refine ih (by omega) _ (fun q h9 => ?_) (fun j h9 => ?_) (fun o h9 => ?_)
              · rw [w2_rd]
                by_cases e9 : q = g
                · subst e9; rw [if_pos ⟨rfl, rfl⟩]
                · rw [if_neg (fun h8 => e9 (by omega))]; exact hv q (by omega)
              · rw [w2_nk (by omega)]; exact hlo j h9
              · rw [w2_ne h9]; exact hF o h9
          exact loop 0 (by decide) _ (fun q h9 => absurd h9 (by omega)) (fun _ _ => rfl) (fun _ _ => rfl)
        · refine V.iconst (q := 70) (v := nI 0) dX3_comes_69 rfl (by decide +kernel) ?_
          exact V.ret_int hB dX3_comes_70 (by decide +kernel) ⟨_, rfl, Or.inl ⟨rfl, by rw [stA_s (by omega) hc0, if_pos (by omega)], rfl⟩⟩
  · have hd1 := dgV_le (cs (p + 1))
    have hd2 := dgV_le (cs (p + 2))
    rw [hc0]
    refine V.aload_n (q := 1) dX3_comes_0 rfl rfl ?_
    refine V.getR (q := 4) dX3_comes_1 rfl kf_X3_35 rfl (by decide) rfl ?_
    refine V.iconst (q := 5) (v := nI 0) dX3_comes_4 rfl (by decide +kernel) ?_
    refine V.ialdN (q := 6) dX3_comes_5 rfl rfl (by decide) (by omega) (by decide) t0 ?_
    refine V.ist2 (q := 7) dX3_comes_6 rfl ?_
    refine V.iload_n (q := 8) dX3_comes_7 rfl rfl ?_
    refine V.lookup (q := 181) (off := 173) dX3_comes_8 (by decide) (by decide +kernel) (by decide) ?_
    refine V.iload_n (q := 182) dX3_comes_181 rfl rfl ?_
    refine V.aload_n (q := 183) dX3_comes_182 rfl rfl ?_
    refine V.getR (q := 186) dX3_comes_183 rfl kf_X3_19 rfl (by decide) rfl ?_
    refine V.iconst (q := 187) (v := nI 0) dX3_comes_186 rfl (by decide +kernel) ?_
    refine V.ialdN (q := 188) dX3_comes_187 rfl rfl (by decide) (by omega) (by decide) hS.c ?_
    refine V.icmpN_ge (t := 206) (q := 191) dX3_comes_188 (by decide) rfl (by omega) (by omega) (fun c188 => ?_) (fun c188 => ?_)
    · refine V.iconst (q := 207) (v := nI 0) dX3_comes_206 rfl (by decide +kernel) ?_
      exact V.ret_int hB dX3_comes_207 (by decide +kernel) ⟨_, rfl, Or.inl ⟨rfl, by rw [stA_m (by omega) hc0, if_neg (by omega)], rfl⟩⟩
    · refine V.aload_n (q := 192) dX3_comes_191 rfl rfl ?_
      refine V.getR (q := 195) dX3_comes_192 rfl kf_X3_35 rfl (by decide) rfl ?_
      refine V.iconst (q := 196) (v := nI 1) dX3_comes_195 rfl (by decide +kernel) ?_
      refine V.ialdN (q := 197) dX3_comes_196 rfl rfl (by decide) (by omega) (by decide) t1 ?_
      refine V.aload_n (q := 198) dX3_comes_197 rfl rfl ?_
      refine V.getR (q := 201) dX3_comes_198 rfl kf_X3_19 rfl (by decide) rfl ?_
      refine V.iconst (q := 202) (v := nI 0) dX3_comes_201 rfl (by decide +kernel) ?_
      refine V.ialdN (q := 203) dX3_comes_202 rfl rfl (by decide) (by omega) (by decide) hS.c ?_
      refine V.icmpN_lt (t := 208) (q := 206) dX3_comes_203 (by decide) rfl (by omega) (by omega) (fun c203 => ?_) (fun c203 => ?_)
      · refine V.aload_n (q := 209) dX3_comes_208 rfl rfl ?_
        refine V.getR (q := 212) dX3_comes_209 rfl kf_X3_19 rfl (by decide) rfl ?_
        refine V.iload_n (q := 213) dX3_comes_212 rfl rfl ?_
        refine V.iconst (q := 214) (v := nI 5) dX3_comes_213 rfl (by decide +kernel) ?_
        refine V.aload_n (q := 215) dX3_comes_214 rfl rfl ?_
        refine V.getR (q := 218) dX3_comes_215 rfl kf_X3_35 rfl (by decide) rfl ?_
        refine V.iconst (q := 219) (v := nI 1) dX3_comes_218 rfl (by decide +kernel) ?_
        refine V.ialdN (q := 220) dX3_comes_219 rfl rfl (by decide) (by omega) (by decide) t1 ?_
        refine V.csv4 (q := 223) dX3_comes_220 rfl kc_X3_96 (hB.rm (by decide)) (Nat.le_of_ble_eq_true rfl) (m_setIn (k := 5) (by omega)) (fun τ220 hp220 => ?_)
        subst hp220
        refine V.iconst (q := 224) (v := nI 1) dX3_comes_223 rfl (by decide +kernel) ?_
        exact V.ret_int hB dX3_comes_224 (by decide +kernel) ⟨_, rfl, Or.inr ⟨rfl, n, _, by rw [stA_m (by omega) hc0, if_pos (by omega)], hS.wr (f := 5) (by decide) (by omega) (by unfold okF; omega), fun o ho => w2_ne ho⟩⟩
      · refine V.iconst (q := 207) (v := nI 0) dX3_comes_206 rfl (by decide +kernel) ?_
        exact V.ret_int hB dX3_comes_207 (by decide +kernel) ⟨_, rfl, Or.inl ⟨rfl, by rw [stA_m (by omega) hc0, if_neg (by omega)], rfl⟩⟩
  · have hd1 := dgV_le (cs (p + 1))
    have h5m : p + 5 ≤ m := by omega
    have t1 : σ 50 1 = nI (dg2 (cs (p + 3)) (cs (p + 4))) := by
      unfold dg2
      rcases hq1 with ⟨-, t1, h9⟩ | ⟨-, h1, h2, t1⟩
      · rw [if_neg h9]; exact t1
      · rw [if_pos ⟨h1, h2⟩]; exact t1
    have hd2 := dg2_le (cs (p + 3)) (cs (p + 4))
    rw [hc0]
    refine V.aload_n (q := 1) dX3_comes_0 rfl rfl ?_
    refine V.getR (q := 4) dX3_comes_1 rfl kf_X3_35 rfl (by decide) rfl ?_
    refine V.iconst (q := 5) (v := nI 0) dX3_comes_4 rfl (by decide +kernel) ?_
    refine V.ialdN (q := 6) dX3_comes_5 rfl rfl (by decide) (by omega) (by decide) t0 ?_
    refine V.ist2 (q := 7) dX3_comes_6 rfl ?_
    refine V.iload_n (q := 8) dX3_comes_7 rfl rfl ?_
    refine V.lookup (q := 225) (off := 217) dX3_comes_8 (by decide) (by decide +kernel) (by decide) ?_
    refine V.iload_n (q := 226) dX3_comes_225 rfl rfl ?_
    refine V.aload_n (q := 227) dX3_comes_226 rfl rfl ?_
    refine V.getR (q := 230) dX3_comes_227 rfl kf_X3_19 rfl (by decide) rfl ?_
    refine V.iconst (q := 231) (v := nI 0) dX3_comes_230 rfl (by decide +kernel) ?_
    refine V.ialdN (q := 232) dX3_comes_231 rfl rfl (by decide) (by omega) (by decide) hS.c ?_
    refine V.icmpN_lt (t := 237) (q := 235) dX3_comes_232 (by decide) rfl (by omega) (by omega) (fun c232 => ?_) (fun c232 => ?_)
    · refine V.aload_n (q := 238) dX3_comes_237 rfl rfl ?_
      refine V.getR (q := 241) dX3_comes_238 rfl kf_X3_19 rfl (by decide) rfl ?_
      refine V.iload_n (q := 242) dX3_comes_241 rfl rfl ?_
      refine V.iconst (q := 243) (v := nI 4) dX3_comes_242 rfl (by decide +kernel) ?_
      refine V.aload_n (q := 244) dX3_comes_243 rfl rfl ?_
      refine V.getR (q := 247) dX3_comes_244 rfl kf_X3_35 rfl (by decide) rfl ?_
      refine V.iconst (q := 248) (v := nI 1) dX3_comes_247 rfl (by decide +kernel) ?_
      refine V.ialdN (q := 249) dX3_comes_248 rfl rfl (by decide) (by omega) (by decide) t1 ?_
      refine V.csv4 (q := 252) dX3_comes_249 rfl kc_X3_96 (hB.rm (by decide)) (Nat.le_of_ble_eq_true rfl) (m_setIn (k := 4) (by omega)) (fun τ249 hp249 => ?_)
      subst hp249
      refine V.iconst (q := 253) (v := nI 1) dX3_comes_252 rfl (by decide +kernel) ?_
      exact V.ret_int hB dX3_comes_253 (by decide +kernel) ⟨_, rfl, Or.inr ⟨rfl, n, _, by rw [stA_p h5m hc0, if_pos (by omega)], hS.wr (f := 4) (by decide) (by omega) (by unfold okF; omega), fun o ho => w2_ne ho⟩⟩
    · refine V.iconst (q := 236) (v := nI 0) dX3_comes_235 rfl (by decide +kernel) ?_
      exact V.ret_int hB dX3_comes_236 (by decide +kernel) ⟨_, rfl, Or.inl ⟨rfl, by rw [stA_p h5m hc0, if_neg (by omega)], rfl⟩⟩

