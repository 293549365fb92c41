theorem ior_bit : ∀ t, t < 6 → ∀ a, a < 64 → a / 2 ^ t % 2 = 0 → nI a ||| nI (2 ^ t) = nI (a + 2 ^ t) ∧ a + 2 ^ t < 64 := by decide +kernel
theorem bit_set : ∀ t, t < 6 → ∀ a, a < 64 → a / 2 ^ t % 2 = 0 → ∀ u, u < 6 → (a + 2 ^ t) / 2 ^ u % 2 = if u = t then 1 else a / 2 ^ u % 2 := by decide +kernel
/-- the least mud so far, and its map -/
def LB (σ : Sg) (n : Nat) (s : Nat × List Nat) : Prop := (s.1 = 55 ∧ σ 43 17 = -9) ∨ (s.1 ≤ 54 ∧ σ 43 17 = nI s.1 ∧ ∀ q, q < n → σ 55 q = nI (lf s.2 q))
theorem LB.fr {σ σ1 : Sg} {n : Nat} {s : Nat × List Nat} (h : LB σ n s) (h1 : σ1 43 17 = σ 43 17) (h2 : σ1 55 = σ 55) : LB σ1 n s := by
  unfold LB; rw [h1, h2]; exact h
def MPq (σ : Sg) (n y : Nat) (τ : Nat → Nat → Nat) (pre : List Nat) (s : Nat × List Nat) (sb : Nat) : Prop :=
  YA σ n y 6 6 τ ∧ SA σ 48 n y τ ∧ LB σ n s ∧ (∀ q, q < pre.length → σ 54 q = nI (lf pre q)) ∧ (∀ q, q < pre.length → lf pre q < n) ∧ sb < 64 ∧ ∀ t, t < 6 → sb / 2 ^ t % 2 = if pre.contains t = true then 1 else 0
def MPo (σ : Sg) (n y : Nat) (τ : Nat → Nat → Nat) (i : Nat) (s : Nat × List Nat) (σ1 : Sg) : Prop :=
  YA σ1 n y 6 6 τ ∧ SA σ1 48 n y τ ∧ Gz σ σ1 ∧ LB σ1 n s ∧ ∀ q, q < i → σ1 54 q = σ 54 q
def mpF (n f : Nat) (pre : List Nat) (to : Nat) : List (List Nat) := if pre.contains to = true then [] else pmL n f (pre ++ [to])
def mpA (n f : Nat) (pre : List Nat) (g : List Nat → Nat) (s : Nat × List Nat) (to : Nat) : Nat × List Nat := ((List.range to).flatMap (mpF n f pre)).foldl (bmS g) s
theorem mpA_s {n f : Nat} {pre : List Nat} {g : List Nat → Nat} {s : Nat × List Nat} {to : Nat} : mpA n f pre g s (to + 1) = (mpF n f pre to).foldl (bmS g) (mpA n f pre g s to) := by
  unfold mpA
  rw [List.range_succ, List.flatMap_append, List.foldl_append]
  simp
theorem lf_app {l : List Nat} {t q : Nat} : lf (l ++ [t]) q = if q = l.length then t else lf l q := by
  unfold lf
  simp only [List.getD_eq_getElem?_getD]
  by_cases h : q = l.length
  · subst h; simp
  · rw [if_neg h]
    rcases Nat.lt_or_ge q l.length with h1 | h1
    · rw [List.getElem?_append_left h1]
    · rw [List.getElem?_eq_none (by simp; omega), List.getElem?_eq_none (by omega)]
theorem LB.m {σ : Sg} {n : Nat} {s : Nat × List Nat} (h : LB σ n s) (hb : s.1 ≤ 54) : σ 43 17 = nI s.1 := by
  rcases h with ⟨h1, -⟩ | ⟨-, h1, -⟩
  · omega
  · exact h1
theorem LB.b {σ : Sg} {n : Nat} {s : Nat × List Nat} (h : LB σ n s) (hb : s.1 ≤ 54) {k : Nat} (hk : k < n) : σ 55 k = nI (lf s.2 k) := by
  rcases h with ⟨h1, -⟩ | ⟨-, -, h1⟩
  · omega
  · exact h1 k hk
theorem bm_fold {g : List Nat → Nat} : ∀ (L : List (List Nat)) (s : Nat × List Nat), s.1 ≤ 54 → (L.foldl (bmS g) s).1 ≤ 54
  | [], s, h => h
  | l :: L, s, h => by
    rw [List.foldl_cons]
    refine bm_fold L _ ?_
    unfold bmS; split
    · show g l ≤ 54; omega
    · exact h
theorem setF_wf {n : Nat} {τ : Nat → Nat → Nat} {a : Nat → Nat} (h : WFt n τ) (ha : ∀ k, k < n → a k < n) : WFt n (setF τ 5 a) := by
  refine WFt.of fun f hf i hi => ?_
  by_cases h5 : f = 5
  · subst h5; rw [setF_at]; have := ha i hi; unfold okF; omega
  · rw [setF_ne h5]; exact h.ok hi f
theorem bm_54 {n y : Nat} {τ : Nat → Nat → Nat} {j : Nat} (hn : n ≤ 6) (h : WFt n τ) : (bmM n y τ j).1 ≤ 54 := by
  have h0 := PL_hd hn
  have hin : ∀ l, l ∈ PL n → bmG n y τ j l ≤ 54 := fun l hl => sumK_b (yrs_wf (y := y) (z := 6) (l := 6) hn (setF_wf h (PL_in hn hl).2) j) hn
  unfold bmM
  cases hP : PL n with
  | nil => rw [hP] at h0; simp at h0
  | cons l L =>
    rw [List.foldl_cons]
    have h1 := hin l (by rw [hP]; exact List.mem_cons_self)
    refine bm_fold L _ ?_
    unfold bmS; rw [if_pos (show bmG n y τ j l < 55 by omega)]; exact h1
-- maps, all streets mapped
set_option maxHeartbeats 4000000 in
set_option maxRecDepth 100000 in
theorem m_maps0 {σ : Sg} {n y : Nat} {τ : Nat → Nat → Nat} {pre : List Nat} {s : Nat × List Nat} {sb j : Nat} (hQ : MPq σ n y τ pre s sb) (hy9 : y ≤ 999) (hj : j ≤ 30) (hi6 : pre.length ≤ 6) (hlen : pre.length = n) : Con 7 yX3_maps cX3_maps 6 none [.ref 43, .int (nI pre.length), .int (nI sb), .int (nI j)] σ (PV (MPo σ n y τ pre.length (bmS (bmG n y τ j) s pre))) := by
  refine Con.of (by decide) (by simp [Value.category]) (Nat.le_of_ble_eq_true rfl) (fun x hB => ?_)
  show V x RX3 cX3_maps 6 0 [some (.ref 43), some (.int (nI pre.length)), some (.int (nI sb)), some (.int (nI j)), none, none] [] _
  obtain ⟨hY, hM, hL, hm, hml, hsb, hbt⟩ := hQ
  have hS := hY.s
  have hn6 := hS.n6
  refine V.iload_n (q := 1) dX3_maps_0 rfl rfl ?_
  refine V.aload_n (q := 2) dX3_maps_1 rfl rfl ?_
  refine V.getR (q := 5) dX3_maps_2 rfl kf_X3_13 rfl (by decide) rfl ?_
  refine V.iconst (q := 6) (v := nI 0) dX3_maps_5 rfl (by decide +kernel) ?_
  refine V.ialdN (q := 7) dX3_maps_6 rfl rfl (by decide) (by omega) (by decide) (SA.c hS) ?_
  refine V.icmpN_ne (t := 99) (q := 10) dX3_maps_7 (by decide) rfl (by omega) (by omega) (fun c7 => absurd c7 (fun h9 => h9 hlen)) (fun c7 => ?_)
  refine V.iconst (q := 11) (v := nI 0) dX3_maps_10 rfl (by decide +kernel) ?_
  refine V.ist4 (q := 13) dX3_maps_11 rfl ?_
  have loop : ∀ o, o ≤ pre.length → ∀ σ1, YA σ1 n y 6 6 (setF τ 5 (fun q => if q < o then lf pre q else τ 5 q)) → SA σ1 48 n y τ → Gz σ σ1 → LB σ1 n s → (∀ q, q < pre.length → σ1 54 q = nI (lf pre q)) → V x RX3 cX3_maps 6 13 [some (.ref 43), some (.int (nI pre.length)), some (.int (nI sb)), some (.int (nI j)), some (.int (nI o)), none] [] σ1 := by
    refine down pre.length (fun o ho ih σ1 hY1 hM1 hG1 hL1 hm1 => ?_)
    have hS1 := hY1.s
    refine V.iload (q := 15) dX3_maps_13 rfl rfl ?_
    refine V.iload_n (q := 16) dX3_maps_15 rfl rfl ?_
    refine V.icmpN_ge (t := 39) (q := 19) dX3_maps_16 (by decide) rfl (by omega) (by omega) (fun c16 => ?_) (fun c16 => ?_)
    · have eo : o = pre.length := by omega
      have hY2 := hY1.cg (υ := setF τ 5 (lf pre)) (fun f hf q hq => by
        by_cases h5 : f = 5
        · subst h5; rw [setF_at, setF_at, if_pos (by omega)]
        · rw [setF_ne h5, setF_ne h5])
      refine V.aload_n (q := 40) dX3_maps_39 rfl rfl ?_
      refine V.iload_n (q := 41) dX3_maps_40 rfl rfl ?_
      refine V.cvi1 (q := 44) dX3_maps_41 rfl kc_X3_165 rfl (by decide) rfl (hB.rm (by decide)) (Nat.le_of_ble_eq_true rfl) (m_mudBehind hY2 hM1 (k := j) (by omega)) (fun r41 τ41 hp41 => ?_)
      obtain ⟨rfl, hY4, hM4, hF4⟩ := hp41
      have hG4 := hG1.y hF4
      have hb7 := sumK_b (yrs_wf (y := y) (z := 6) (l := 6) hn6 hY2.w j) hn6
      have hL4 : LB τ41 n s := hL1.fr (by rw [hF4 43 (by decide) (by decide)]) (hF4 55 (by decide) (by decide))
      have hm4 : ∀ q, q < pre.length → τ41 54 q = nI (lf pre q) := fun q hq => by rw [hF4 54 (by decide) (by decide)]; exact hm1 q hq
      refine V.ist4 (q := 46) dX3_maps_44 rfl ?_
      rcases hL4 with ⟨hs55, h17⟩ | ⟨hs54, h17, h55⟩
      · have hbm : bmS (bmG n y τ j) s pre = (bmG n y τ j pre, pre) := by
          unfold bmS; rw [if_pos (by rw [hs55]; exact Nat.lt_of_le_of_lt hb7 (by decide))]
        refine V.aload_n (q := 47) dX3_maps_46 rfl rfl ?_
        refine V.getI (q := 50) dX3_maps_47 rfl kf_X3_168 rfl (by decide) rfl h17 ?_
        refine V.if_lt (t := 63) (q := 53) dX3_maps_50 (by decide) rfl  (fun c50 => ?_) (fun c50 => absurd c50 (by decide +kernel))
        refine V.aload_n (q := 64) dX3_maps_63 rfl rfl ?_
        refine V.iload (q := 66) dX3_maps_64 rfl rfl ?_
        refine V.putI (q := 69) dX3_maps_66 rfl kp_X3_168 rfl (by decide) rfl rfl rfl ?_
        have hY5 := hY4.w3 (k := 17) (v := nI (bmG n y τ j pre)) (by decide) (by decide)
        have hM5 := hM4.ww (o1 := 43) (k := 17) (v := nI (bmG n y τ j pre)) (by decide)
        have hG5 := hG4.w3 (k := 17) (v := nI (bmG n y τ j pre)) (by decide)
        have h175 : w2 τ41 43 17 (nI (bmG n y τ j pre)) 43 17 = nI (bmG n y τ j pre) := by rw [w2_at]
        have hm5 : ∀ q, q < pre.length → w2 τ41 43 17 (nI (bmG n y τ j pre)) 54 q = nI (lf pre q) := fun q hq => by rw [w2_ne (by decide)]; exact hm4 q hq
        refine V.iconst (q := 70) (v := nI 0) dX3_maps_69 rfl (by decide +kernel) ?_
        refine V.ist5 (q := 72) dX3_maps_70 rfl ?_
        have loop2 : ∀ o, o ≤ pre.length → ∀ σ2, YA σ2 n y 6 6 τ → SA σ2 48 n y τ → Gz σ σ2 → σ2 43 17 = nI (bmG n y τ j pre) → (∀ q, q < pre.length → σ2 54 q = nI (lf pre q)) → (∀ q, q < o → σ2 55 q = nI (lf pre q)) → V x RX3 cX3_maps 6 72 [some (.ref 43), some (.int (nI pre.length)), some (.int (nI sb)), some (.int (nI j)), some (.int (nI (bmG n y τ j pre))), some (.int (nI o))] [] σ2 := by
          refine down pre.length (fun o ho ih2 σ2 hY6 hM6 hG6 h176 hm6 hb6 => ?_)
          refine V.iload (q := 74) dX3_maps_72 rfl rfl ?_
          refine V.iload_n (q := 75) dX3_maps_74 rfl rfl ?_
          refine V.icmpN_ge (t := 98) (q := 78) dX3_maps_75 (by decide) rfl (by omega) (by omega) (fun c75 => ?_) (fun c75 => ?_)
          · have eo : o = pre.length := by omega
            exact V.ret_v hB dX3_maps_98 ⟨rfl, ⟨hY6, hM6, hG6, by rw [hbm]; exact Or.inr ⟨hb7, h176, fun q hq => hb6 q (by omega)⟩, fun q hq => by rw [hm6 q hq, hm q hq]⟩⟩
          · refine V.aload_n (q := 79) dX3_maps_78 rfl rfl ?_
            refine V.getR (q := 82) dX3_maps_79 rfl kf_X3_50 rfl (by decide) rfl ?_
            refine V.iload (q := 84) dX3_maps_82 rfl rfl ?_
            refine V.aload_n (q := 85) dX3_maps_84 rfl rfl ?_
            refine V.getR (q := 88) dX3_maps_85 rfl kf_X3_47 rfl (by decide) rfl ?_
            refine V.iload (q := 90) dX3_maps_88 rfl rfl ?_
            refine V.ialdN (q := 91) dX3_maps_90 rfl rfl (by decide) (by omega) (by decide) (hm6 o (by omega)) ?_
            refine V.iastN (q := 92) dX3_maps_91 rfl rfl (by decide) (by omega) (by decide) ?_
            refine V.inc5 (q := 95) dX3_maps_92 rfl (inc1 _) ?_
            refine V.goto (q := 72) dX3_maps_95 (by decide) ?_
            refine ih2 (by omega) _ (hY6.ww (by decide) (by decide)) (hM6.ww (by decide)) (hG6.w (by decide)) (by rw [w2_ne (by decide)]; exact h176) (fun q hq => by rw [w2_ne (by decide)]; exact hm6 q hq) (fun q hq => ?_)
            rw [w2_rd]
            by_cases h9 : q = o
            · subst h9; rw [if_pos ⟨rfl, rfl⟩]
            · rw [if_neg (fun h8 => h9 h8.2)]; exact hb6 q (by omega)
        exact loop2 0 (Nat.zero_le _) _ hY5 hM5 hG5 h175 hm5 (fun q hq => absurd hq (by omega))
      · skip
        refine V.aload_n (q := 47) dX3_maps_46 rfl rfl ?_
        refine V.getI (q := 50) dX3_maps_47 rfl kf_X3_168 rfl (by decide) rfl h17 ?_
        refine V.ifN_lt (t := 63) (q := 53) dX3_maps_50 (by decide) rfl (by omega) (fun c50 => absurd c50 (by omega)) (fun c50 => ?_)
        refine V.iload (q := 55) dX3_maps_53 rfl rfl ?_
        refine V.aload_n (q := 56) dX3_maps_55 rfl rfl ?_
        refine V.getI (q := 59) dX3_maps_56 rfl kf_X3_168 rfl (by decide) rfl h17 ?_
        refine V.icmpN_lt (t := 63) (q := 62) dX3_maps_59 (by decide) rfl (by omega) (by omega) (fun c59 => ?_) (fun c59 => ?_)
        · have hbm : bmS (bmG n y τ j) s pre = (bmG n y τ j pre, pre) := by
            unfold bmS; rw [if_pos (show bmG n y τ j pre < s.1 from c59)]
          refine V.aload_n (q := 64) dX3_maps_63 rfl rfl ?_
          refine V.iload (q := 66) dX3_maps_64 rfl rfl ?_
          refine V.putI (q := 69) dX3_maps_66 rfl kp_X3_168 rfl (by decide) rfl rfl rfl ?_
          have hY5 := hY4.w3 (k := 17) (v := nI (bmG n y τ j pre)) (by decide) (by decide)
          have hM5 := hM4.ww (o1 := 43) (k := 17) (v := nI (bmG n y τ j pre)) (by decide)
          have hG5 := hG4.w3 (k := 17) (v := nI (bmG n y τ j pre)) (by decide)
          have h175 : w2 τ41 43 17 (nI (bmG n y τ j pre)) 43 17 = nI (bmG n y τ j pre) := by rw [w2_at]
          have hm5 : ∀ q, q < pre.length → w2 τ41 43 17 (nI (bmG n y τ j pre)) 54 q = nI (lf pre q) := fun q hq => by rw [w2_ne (by decide)]; exact hm4 q hq
          refine V.iconst (q := 70) (v := nI 0) dX3_maps_69 rfl (by decide +kernel) ?_
          refine V.ist5 (q := 72) dX3_maps_70 rfl ?_
          have loop2 : ∀ o, o ≤ pre.length → ∀ σ2, YA σ2 n y 6 6 τ → SA σ2 48 n y τ → Gz σ σ2 → σ2 43 17 = nI (bmG n y τ j pre) → (∀ q, q < pre.length → σ2 54 q = nI (lf pre q)) → (∀ q, q < o → σ2 55 q = nI (lf pre q)) → V x RX3 cX3_maps 6 72 [some (.ref 43), some (.int (nI pre.length)), some (.int (nI sb)), some (.int (nI j)), some (.int (nI (bmG n y τ j pre))), some (.int (nI o))] [] σ2 := by
            refine down pre.length (fun o ho ih2 σ2 hY6 hM6 hG6 h176 hm6 hb6 => ?_)
            refine V.iload (q := 74) dX3_maps_72 rfl rfl ?_
            refine V.iload_n (q := 75) dX3_maps_74 rfl rfl ?_
            refine V.icmpN_ge (t := 98) (q := 78) dX3_maps_75 (by decide) rfl (by omega) (by omega) (fun c75 => ?_) (fun c75 => ?_)
            · have eo : o = pre.length := by omega
              exact V.ret_v hB dX3_maps_98 ⟨rfl, ⟨hY6, hM6, hG6, by rw [hbm]; exact Or.inr ⟨hb7, h176, fun q hq => hb6 q (by omega)⟩, fun q hq => by rw [hm6 q hq, hm q hq]⟩⟩
            · refine V.aload_n (q := 79) dX3_maps_78 rfl rfl ?_
              refine V.getR (q := 82) dX3_maps_79 rfl kf_X3_50 rfl (by decide) rfl ?_
              refine V.iload (q := 84) dX3_maps_82 rfl rfl ?_
              refine V.aload_n (q := 85) dX3_maps_84 rfl rfl ?_
              refine V.getR (q := 88) dX3_maps_85 rfl kf_X3_47 rfl (by decide) rfl ?_
              refine V.iload (q := 90) dX3_maps_88 rfl rfl ?_
              refine V.ialdN (q := 91) dX3_maps_90 rfl rfl (by decide) (by omega) (by decide) (hm6 o (by omega)) ?_
              refine V.iastN (q := 92) dX3_maps_91 rfl rfl (by decide) (by omega) (by decide) ?_
              refine V.inc5 (q := 95) dX3_maps_92 rfl (inc1 _) ?_
              refine V.goto (q := 72) dX3_maps_95 (by decide) ?_
              refine ih2 (by omega) _ (hY6.ww (by decide) (by decide)) (hM6.ww (by decide)) (hG6.w (by decide)) (by rw [w2_ne (by decide)]; exact h176) (fun q hq => by rw [w2_ne (by decide)]; exact hm6 q hq) (fun q hq => ?_)
              rw [w2_rd]
              by_cases h9 : q = o
              · subst h9; rw [if_pos ⟨rfl, rfl⟩]
              · rw [if_neg (fun h8 => h9 h8.2)]; exact hb6 q (by omega)
          exact loop2 0 (Nat.zero_le _) _ hY5 hM5 hG5 h175 hm5 (fun q hq => absurd hq (by omega))
        · have hbm : bmS (bmG n y τ j) s pre = s := by
            unfold bmS; rw [if_neg (show ¬ bmG n y τ j pre < s.1 from Nat.not_lt.mpr c59)]
          exact V.ret_v hB dX3_maps_62 ⟨rfl, ⟨hY4, hM4, hG4, by rw [hbm]; exact Or.inr ⟨hs54, h17, h55⟩, fun q hq => by rw [hm4 q hq, hm q hq]⟩⟩
    · refine V.aload_n (q := 20) dX3_maps_19 rfl rfl ?_
      refine V.iload (q := 22) dX3_maps_20 rfl rfl ?_
      refine V.iconst (q := 23) (v := nI 5) dX3_maps_22 rfl (by decide +kernel) ?_
      refine V.aload_n (q := 24) dX3_maps_23 rfl rfl ?_
      refine V.getR (q := 27) dX3_maps_24 rfl kf_X3_47 rfl (by decide) rfl ?_
      refine V.iload (q := 29) dX3_maps_27 rfl rfl ?_
      refine V.ialdN (q := 30) dX3_maps_29 rfl rfl (by decide) (by omega) (by decide) (hm1 o (by omega)) ?_
      refine V.cvv3 (q := 33) dX3_maps_30 rfl kc_X3_116 rfl (by decide) rfl (hB.rm (by decide)) (Nat.le_of_ble_eq_true rfl) (m_puts (by omega)) (fun τ30 hp30 => ?_)
      subst hp30
      have hlo := hml o c16
      have hY3 := hY1.wr (f := 5) (v := lf pre o) (by decide) (show o < n by omega) (by unfold okF; omega)
      refine V.inc4 (q := 36) dX3_maps_33 rfl (inc1 _) ?_
      refine V.goto (q := 13) dX3_maps_36 (by decide) ?_
      exact ih c16 _ (hY3.cg (fun f hf q hq => by
        by_cases h5 : f = 5
        · subst h5; rw [setF_at, setF_at, setF_at]; unfold upN
          by_cases h6 : q = o
          · subst h6; rw [if_pos rfl, if_pos (by omega)]
          · rw [if_neg h6]; dsimp only
            by_cases h7 : q < o
            · rw [if_pos h7, if_pos (by omega)]
            · rw [if_neg h7, if_neg (by omega)]
        · rw [setF_ne h5, setF_ne h5, setF_ne h5])) (hM1.ww (by decide)) (hG1.w (by decide)) (hL1.fr (by rw [w2_ne (by decide)]) (by rw [w2_ne (by decide)])) (fun q hq => by rw [w2_ne (by decide)]; exact hm1 q hq)
  exact loop 0 (Nat.zero_le _) _ (hY.cg (fun f hf q hq => by
    by_cases h5 : f = 5
    · subst h5; rw [setF_at, if_neg (by omega)]
    · rw [setF_ne h5])) hM Gz.rf hL hm

-- maps, one street more
set_option maxHeartbeats 4000000 in
set_option maxRecDepth 100000 in
theorem m_mapsS {σ : Sg} {n y : Nat} {τ : Nat → Nat → Nat} {pre : List Nat} {s : Nat × List Nat} {sb j : Nat} (hQ : MPq σ n y τ pre s sb) (hy9 : y ≤ 999) (hj : j ≤ 30) (hi6 : pre.length ≤ 6) {f : Nat} (hlen : pre.length + (f + 1) = n) (IH : ∀ (σ : Sg) (pre : List Nat) (s : Nat × List Nat) (sb : Nat), MPq σ n y τ pre s sb → pre.length + f = n → Con (7 + f) yX3_maps cX3_maps 6 none [.ref 43, .int (nI pre.length), .int (nI sb), .int (nI j)] σ (PV (MPo σ n y τ pre.length ((pmL n f pre).foldl (bmS (bmG n y τ j)) s)))) : Con (7 + (f + 1)) yX3_maps cX3_maps 6 none [.ref 43, .int (nI pre.length), .int (nI sb), .int (nI j)] σ (PV (MPo σ n y τ pre.length ((pmL n (f + 1) pre).foldl (bmS (bmG n y τ j)) s))) := by
  refine Con.of (by decide) (by simp [Value.category]) (Nat.le_of_ble_eq_true rfl) (fun x hB => ?_)
  show V x RX3 cX3_maps 6 0 [some (.ref 43), some (.int (nI pre.length)), some (.int (nI sb)), some (.int (nI j)), none, none] [] _
  obtain ⟨hY, hM, hL, hm, hml, hsb, hbt⟩ := hQ
  have hS := hY.s
  have hn6 := hS.n6
  refine V.iload_n (q := 1) dX3_maps_0 rfl rfl ?_
  refine V.aload_n (q := 2) dX3_maps_1 rfl rfl ?_
  refine V.getR (q := 5) dX3_maps_2 rfl kf_X3_13 rfl (by decide) rfl ?_
  refine V.iconst (q := 6) (v := nI 0) dX3_maps_5 rfl (by decide +kernel) ?_
  refine V.ialdN (q := 7) dX3_maps_6 rfl rfl (by decide) (by omega) (by decide) (SA.c hS) ?_
  refine V.icmpN_ne (t := 99) (q := 10) dX3_maps_7 (by decide) rfl (by omega) (by omega) (fun c7 => ?_) (fun c7 => absurd c7 (fun h9 => absurd h9 (by omega)))
  refine V.iconst (q := 100) (v := nI 0) dX3_maps_99 rfl (by decide +kernel) ?_
  refine V.ist4 (q := 102) dX3_maps_100 rfl ?_
  have loop : ∀ t, t ≤ n → ∀ σ1, YA σ1 n y 6 6 τ → SA σ1 48 n y τ → Gz σ σ1 → LB σ1 n (mpA n f pre (bmG n y τ j) s t) → (∀ q, q < pre.length → σ1 54 q = nI (lf pre q)) → V x RX3 cX3_maps 6 102 [some (.ref 43), some (.int (nI pre.length)), some (.int (nI sb)), some (.int (nI j)), some (.int (nI t)), none] [] σ1 := by
    refine down n (fun t ht ih σ1 hY1 hM1 hG1 hL1 hm1 => ?_)
    have hS1 := hY1.s
    refine V.iload (q := 104) dX3_maps_102 rfl rfl ?_
    refine V.aload_n (q := 105) dX3_maps_104 rfl rfl ?_
    refine V.getR (q := 108) dX3_maps_105 rfl kf_X3_13 rfl (by decide) rfl ?_
    refine V.iconst (q := 109) (v := nI 0) dX3_maps_108 rfl (by decide +kernel) ?_
    refine V.ialdN (q := 110) dX3_maps_109 rfl rfl (by decide) (by omega) (by decide) (SA.c hS1) ?_
    refine V.icmpN_ge (t := 154) (q := 113) dX3_maps_110 (by decide) rfl (by omega) (by omega) (fun c110 => ?_) (fun c110 => ?_)
    · have et : t = n := by omega
      exact V.ret_v hB dX3_maps_154 ⟨rfl, ⟨hY1, hM1, hG1, by rw [et] at hL1; exact hL1, fun q hq => by rw [hm1 q hq, hm q hq]⟩⟩
    · refine V.iload_n (q := 114) dX3_maps_113 rfl rfl ?_
      refine V.iload (q := 116) dX3_maps_114 rfl rfl ?_
      refine V.ishr (q := 117) dX3_maps_116 rfl ?_
      refine V.iconst (q := 118) (v := nI 1) dX3_maps_117 rfl (by decide +kernel) ?_
      refine V.iand (q := 119) dX3_maps_118 rfl ?_
      rw [shr_all t (by omega) sb hsb, hbt t (by omega)]
      refine V.iconst (q := 120) (v := nI 1) dX3_maps_119 rfl (by decide +kernel) ?_
      by_cases hcn : pre.contains t = true
      · rw [if_pos hcn]
        refine V.icmpN_ne (t := 126) (q := 123) dX3_maps_120 (by decide) rfl (by omega) (by omega) (fun c120 => absurd c120 (by decide +kernel)) (fun c120 => ?_)
        refine V.goto (q := 148) dX3_maps_123 (by decide) ?_
        refine V.inc4 (q := 151) dX3_maps_148 rfl (inc1 _) ?_
        refine V.goto (q := 102) dX3_maps_151 (by decide) ?_
        exact ih c110 _ hY1 hM1 hG1 (by rw [mpA_s]; unfold mpF; rw [if_pos hcn]; exact hL1) hm1
      · rw [if_neg hcn]
        have hb0 := hbt t (by omega)
        rw [if_neg hcn] at hb0
        obtain ⟨hio, hi64⟩ := ior_bit t (by omega) sb hsb hb0
        refine V.icmpN_ne (t := 126) (q := 123) dX3_maps_120 (by decide) rfl (by omega) (by omega) (fun c120 => ?_) (fun c120 => absurd c120 (by decide +kernel))
        refine V.aload_n (q := 127) dX3_maps_126 rfl rfl ?_
        refine V.getR (q := 130) dX3_maps_127 rfl kf_X3_47 rfl (by decide) rfl ?_
        refine V.iload_n (q := 131) dX3_maps_130 rfl rfl ?_
        refine V.iload (q := 133) dX3_maps_131 rfl rfl ?_
        refine V.iastN (q := 134) dX3_maps_133 rfl rfl (by decide) (by omega) (by decide) ?_
        refine V.aload_n (q := 135) dX3_maps_134 rfl rfl ?_
        refine V.iload_n (q := 136) dX3_maps_135 rfl rfl ?_
        refine V.iconst (q := 137) (v := nI 1) dX3_maps_136 rfl (by decide +kernel) ?_
        refine V.iaddN (q := 138) dX3_maps_137 rfl ?_
        refine V.iload_n (q := 139) dX3_maps_138 rfl rfl ?_
        refine V.iconst (q := 140) (v := nI 1) dX3_maps_139 rfl (by decide +kernel) ?_
        refine V.iload (q := 142) dX3_maps_140 rfl rfl ?_
        refine V.ishl (q := 143) dX3_maps_142 rfl ?_
        rw [shl1 (show t < 6 by omega)]
        refine V.ior (q := 144) dX3_maps_143 rfl ?_
        rw [hio]
        have hpl : (pre ++ [t]).length = pre.length + 1 := by simp
        have hQ2 : MPq (w2 σ1 54 pre.length (nI t)) n y τ (pre ++ [t]) (mpA n f pre (bmG n y τ j) s t) (sb + 2 ^ t) := by
          refine ⟨hY1.ww (by decide) (by decide), hM1.ww (by decide), hL1.fr (by rw [w2_ne (by decide)]) (by rw [w2_ne (by decide)]), fun q hq => ?_, fun q hq => ?_, hi64, fun u hu => ?_⟩
          · rw [w2_rd, lf_app]
            by_cases h9 : q = pre.length
            · rw [if_pos ⟨rfl, h9⟩, if_pos h9]
            · rw [if_neg (fun h8 => h9 h8.2), if_neg h9]; exact hm1 q (by omega)
          · rw [lf_app]
            by_cases h9 : q = pre.length
            · rw [if_pos h9]; exact c110
            · rw [if_neg h9]; exact hml q (by omega)
          · rw [bit_set t (by omega) sb hsb hb0 u hu, hbt u hu]
            by_cases h9 : u = t
            · subst h9; simp
            · simp [h9]
        have ihc := IH _ (pre ++ [t]) _ _ hQ2 (by omega)
        rw [hpl] at ihc
        refine V.iload_n (q := 145) dX3_maps_144 rfl rfl ?_
        refine V.cvv3 (q := 148) dX3_maps_145 rfl kc_X3_171 rfl (by decide) rfl (hB.rm (by omega)) (Nat.le_of_ble_eq_true rfl) (ihc) (fun τ145 hp145 => ?_)
        obtain ⟨hY2, hM2, hG2, hL2, hm2⟩ := hp145
        refine V.inc4 (q := 151) dX3_maps_148 rfl (inc1 _) ?_
        refine V.goto (q := 102) dX3_maps_151 (by decide) ?_
        exact ih c110 _ hY2 hM2 ((hG1.w (by decide)).tr hG2) (by rw [mpA_s]; unfold mpF; rw [if_neg hcn]; exact hL2) (fun q hq => by rw [hm2 q (by omega), w2_nk (by omega)]; exact hm1 q hq)
  exact loop 0 (Nat.zero_le _) _ hY hM Gz.rf hL hm

theorem m_maps {n y : Nat} {τ : Nat → Nat → Nat} {j : Nat} (hy9 : y ≤ 999) (hj : j ≤ 30) (hn6 : n ≤ 6) : ∀ (f : Nat) (σ : Sg) (pre : List Nat) (s : Nat × List Nat) (sb : Nat), MPq σ n y τ pre s sb → pre.length + f = n → Con (7 + f) yX3_maps cX3_maps 6 none [.ref 43, .int (nI pre.length), .int (nI sb), .int (nI j)] σ (PV (MPo σ n y τ pre.length ((pmL n f pre).foldl (bmS (bmG n y τ j)) s)))
  | 0, σ, pre, s, sb, hQ, hl => m_maps0 hQ hy9 hj (by omega) hl
  | f + 1, σ, pre, s, sb, hQ, hl => m_mapsS hQ hy9 hj (by omega) hl (m_maps hy9 hj hn6 f)
-- bestMap
set_option maxHeartbeats 4000000 in
set_option maxRecDepth 100000 in
theorem m_best {σ : Sg} {n y : Nat} {τ : Nat → Nat → Nat} {fl n2 y2 : Nat} {τ2 : Nat → Nat → Nat} {m : Nat} {cs : Nat → Nat} {rl : Nat} {ro rc : Nat → Nat} (hX : MR σ n y τ fl n2 y2 τ2 m cs rl ro rc) (v : Int32) (w : Int32) : Con 14 yX3_bestMap cX3_bestMap 4 (some .int) [.ref 43, .int v, .int w] σ (PI (MP σ n y τ fl n2 y2 τ2 m cs rl ro rc (q_best n y τ v w))) := by
  refine Con.of (by decide) (by simp [Value.category]) (Nat.le_of_ble_eq_true rfl) (fun x hB => ?_)
  show V x RX3 cX3_bestMap 4 0 [some (.ref 43), some (.int v), some (.int w), none] [] _
  have hY := hX.now
  have hS := hY.s
  have hn6 := hS.n6
  have hy9 := hX.y9
  refine V.iload_n (q := 1) dX3_bestMap_0 rfl rfl ?_
  refine V.iconst (q := 2) (v := (-1)) dX3_bestMap_1 rfl (by decide +kernel) ?_
  refine V.icmp_eq (t := 13) (q := 5) dX3_bestMap_2 (by decide) rfl  (fun c2 => ?_) (fun c2 => ?_)
  · subst c2
    refine V.iload_n (q := 14) dX3_bestMap_13 rfl rfl ?_
    refine V.iconst (q := 15) (v := nI 1) dX3_bestMap_14 rfl (by decide +kernel) ?_
    refine V.bipush (q := 17) (v := nI 30) dX3_bestMap_15 rfl (by decide +kernel) ?_
    refine V.csi3 (q := 20) dX3_bestMap_17 rfl kc_X3_64 (hB.rm (by decide)) (Nat.le_of_ble_eq_true rfl) (m_within v 1 30 (by decide) (by decide)) (fun r17 τ17 hp17 => ?_)
    obtain ⟨hz, ⟨hrf, rfl⟩ | ⟨hrf, rfl⟩ | ⟨rfl, j, hj1, hj2, rfl⟩⟩ := hp17
    · rw [hz]
      refine V.goto (q := 24) dX3_bestMap_20 (by decide) ?_
      refine V.ist3 (q := 25) dX3_bestMap_24 rfl ?_
      refine V.iload_n (q := 26) dX3_bestMap_25 rfl rfl ?_
      refine V.if_eq (t := 35) (q := 29) dX3_bestMap_26 (by decide) rfl  (fun c26 => absurd c26 (by decide +kernel)) (fun c26 => ?_)
      refine V.aload_n (q := 30) dX3_bestMap_29 rfl rfl ?_
      refine V.iload_n (q := 31) dX3_bestMap_30 rfl rfl ?_
      refine V.cvi1 (q := 34) dX3_bestMap_31 rfl kc_X3_71 rfl (by decide) rfl (hB.rm (by decide)) (Nat.le_of_ble_eq_true rfl) (m_refuse hX (k := 4) (v := -4) (by decide) (by decide) (by decide +kernel)) (fun r31 τ31 hp31 => ?_)
      obtain ⟨rfl, hz⟩ := hp31
      rw [hz]
      exact V.ret_int hB dX3_bestMap_34 rfl ⟨_, rfl, MP.no hX (by simp [q_best, rfq_4 hrf]) (by decide) (by decide +kernel)⟩
    · rw [hz]
      refine V.goto (q := 24) dX3_bestMap_20 (by decide) ?_
      refine V.ist3 (q := 25) dX3_bestMap_24 rfl ?_
      refine V.iload_n (q := 26) dX3_bestMap_25 rfl rfl ?_
      refine V.if_eq (t := 35) (q := 29) dX3_bestMap_26 (by decide) rfl  (fun c26 => absurd c26 (by decide +kernel)) (fun c26 => ?_)
      refine V.aload_n (q := 30) dX3_bestMap_29 rfl rfl ?_
      refine V.iload_n (q := 31) dX3_bestMap_30 rfl rfl ?_
      refine V.cvi1 (q := 34) dX3_bestMap_31 rfl kc_X3_71 rfl (by decide) rfl (hB.rm (by decide)) (Nat.le_of_ble_eq_true rfl) (m_refuse hX (k := 6) (v := -6) (by decide) (by decide) (by decide +kernel)) (fun r31 τ31 hp31 => ?_)
      obtain ⟨rfl, hz⟩ := hp31
      rw [hz]
      exact V.ret_int hB dX3_bestMap_34 rfl ⟨_, rfl, MP.no hX (by simp [q_best, rfq_6 hrf]) (by decide) (by decide +kernel)⟩
    · rw [hz]
      refine V.goto (q := 24) dX3_bestMap_20 (by decide) ?_
      refine V.ist3 (q := 25) dX3_bestMap_24 rfl ?_
      refine V.iload_n (q := 26) dX3_bestMap_25 rfl rfl ?_
      refine V.ifN_eq (t := 35) (q := 29) dX3_bestMap_26 (by decide) rfl (by omega) (fun c26 => ?_) (fun c26 => absurd c26 (by decide +kernel))
      refine V.aload_n (q := 36) dX3_bestMap_35 rfl rfl ?_
      refine V.bipush (q := 38) (v := (-9)) dX3_bestMap_36 rfl (by decide +kernel) ?_
      refine V.putI (q := 41) dX3_bestMap_38 rfl kp_X3_168 rfl (by decide) rfl rfl rfl ?_
      have hY0 := hY.w3 (k := 17) (v := -9) (by decide) (by decide)
      have hS0 := hY0.s
      have hG0 := Gz.rf.w3 (σ := σ) (k := 17) (v := -9) (by decide)
      refine V.aload_n (q := 42) dX3_bestMap_41 rfl rfl ?_
      refine V.cvv0 (q := 45) dX3_bestMap_42 rfl kc_X3_152 rfl (by decide) rfl (hB.rm (by decide)) (Nat.le_of_ble_eq_true rfl) (m_begins hS0) (fun τ42 hp42 => ?_)
      obtain ⟨hM1, hS1, hF1⟩ := hp42
      have hG1 := hG0.c hF1 (by decide)
      have hY1 : YA τ42 n y 6 6 τ := ⟨hS1, by rw [hF1 43 (by decide)]; exact hY0.2⟩
      have hQ1 : MPq τ42 n y τ [] (55, []) 0 := ⟨hY1, hM1, Or.inl ⟨rfl, by rw [hF1 43 (by decide), w2_at]⟩, fun q hq => absurd hq (by simp), fun q hq => absurd hq (by simp), by decide, fun t ht => by simp⟩
      refine V.aload_n (q := 46) dX3_bestMap_45 rfl rfl ?_
      refine V.iconst (q := 47) (v := nI 0) dX3_bestMap_46 rfl (by decide +kernel) ?_
      refine V.iconst (q := 48) (v := nI 0) dX3_bestMap_47 rfl (by decide +kernel) ?_
      refine V.iload_n (q := 49) dX3_bestMap_48 rfl rfl ?_
      refine V.cvv3 (q := 52) dX3_bestMap_49 rfl kc_X3_171 rfl (by decide) rfl (hB.rm (by omega)) (Nat.le_of_ble_eq_true rfl) (m_maps (j := j) hy9 hj2 hn6 n _ [] (55, []) 0 hQ1 (by simp)) (fun τ49 hp49 => ?_)
      obtain ⟨hY2, hM2, hG2, hL2, -⟩ := hp49
      have hG3 := hG1.tr hG2
      have hL3 : LB τ49 n (bmM n y τ j) := hL2
      have hb3 := bm_54 (n := n) (y := y) (τ := τ) (j := j) hn6 hS.w
      refine V.iload_n (q := 53) dX3_bestMap_52 rfl rfl ?_
      refine V.if_ge (t := 63) (q := 56) dX3_bestMap_53 (by decide) rfl  (fun c53 => absurd c53 (by decide +kernel)) (fun c53 => ?_)
      refine V.aload_n (q := 57) dX3_bestMap_56 rfl rfl ?_
      refine V.getI (q := 60) dX3_bestMap_57 rfl kf_X3_168 rfl (by decide) rfl (LB.m hL3 hb3) ?_
      refine V.goto (q := 69) dX3_bestMap_60 (by decide) ?_
      exact V.ret_int hB dX3_bestMap_69 rfl ⟨_, rfl, MP.yes hX (hY2) (hG3) (by simp [q_best, rfq_in hj1 hj2 (show 30 < 2 ^ 20 by decide), tn_nI (show j < 2 ^ 31 by omega)])⟩
  · refine V.aload_n (q := 6) dX3_bestMap_5 rfl rfl ?_
    refine V.iload_n (q := 7) dX3_bestMap_6 rfl rfl ?_
    refine V.cvi1 (q := 10) dX3_bestMap_7 rfl kc_X3_142 rfl (by decide) rfl (hB.rm (by decide)) (Nat.le_of_ble_eq_true rfl) (m_isStreet hS w) (fun r7 τ7 hp7 => ?_)
    obtain ⟨hz, ⟨rfl, k, hk, rfl⟩ | ⟨rfl, hsk⟩⟩ := hp7
    · rw [hz]
      refine V.ifN_eq (t := 23) (q := 13) dX3_bestMap_10 (by decide) rfl (by omega) (fun c10 => absurd c10 (by decide +kernel)) (fun c10 => ?_)
      refine V.iload_n (q := 14) dX3_bestMap_13 rfl rfl ?_
      refine V.iconst (q := 15) (v := nI 1) dX3_bestMap_14 rfl (by decide +kernel) ?_
      refine V.bipush (q := 17) (v := nI 30) dX3_bestMap_15 rfl (by decide +kernel) ?_
      refine V.csi3 (q := 20) dX3_bestMap_17 rfl kc_X3_64 (hB.rm (by decide)) (Nat.le_of_ble_eq_true rfl) (m_within v 1 30 (by decide) (by decide)) (fun r17 τ17 hp17 => ?_)
      obtain ⟨hz, ⟨hrf, rfl⟩ | ⟨hrf, rfl⟩ | ⟨rfl, j, hj1, hj2, rfl⟩⟩ := hp17
      · rw [hz]
        refine V.goto (q := 24) dX3_bestMap_20 (by decide) ?_
        refine V.ist3 (q := 25) dX3_bestMap_24 rfl ?_
        refine V.iload_n (q := 26) dX3_bestMap_25 rfl rfl ?_
        refine V.if_eq (t := 35) (q := 29) dX3_bestMap_26 (by decide) rfl  (fun c26 => absurd c26 (by decide +kernel)) (fun c26 => ?_)
        refine V.aload_n (q := 30) dX3_bestMap_29 rfl rfl ?_
        refine V.iload_n (q := 31) dX3_bestMap_30 rfl rfl ?_
        refine V.cvi1 (q := 34) dX3_bestMap_31 rfl kc_X3_71 rfl (by decide) rfl (hB.rm (by decide)) (Nat.le_of_ble_eq_true rfl) (m_refuse hX (k := 4) (v := -4) (by decide) (by decide) (by decide +kernel)) (fun r31 τ31 hp31 => ?_)
        obtain ⟨rfl, hz⟩ := hp31
        rw [hz]
        exact V.ret_int hB dX3_bestMap_34 rfl ⟨_, rfl, MP.no hX (by simp [q_best, nI_m1 (show k < 2 ^ 31 by omega), stN_some hk (Nat.le_trans hn6 (by decide)), rfq_4 hrf]) (by decide) (by decide +kernel)⟩
      · rw [hz]
        refine V.goto (q := 24) dX3_bestMap_20 (by decide) ?_
        refine V.ist3 (q := 25) dX3_bestMap_24 rfl ?_
        refine V.iload_n (q := 26) dX3_bestMap_25 rfl rfl ?_
        refine V.if_eq (t := 35) (q := 29) dX3_bestMap_26 (by decide) rfl  (fun c26 => absurd c26 (by decide +kernel)) (fun c26 => ?_)
        refine V.aload_n (q := 30) dX3_bestMap_29 rfl rfl ?_
        refine V.iload_n (q := 31) dX3_bestMap_30 rfl rfl ?_
        refine V.cvi1 (q := 34) dX3_bestMap_31 rfl kc_X3_71 rfl (by decide) rfl (hB.rm (by decide)) (Nat.le_of_ble_eq_true rfl) (m_refuse hX (k := 6) (v := -6) (by decide) (by decide) (by decide +kernel)) (fun r31 τ31 hp31 => ?_)
        obtain ⟨rfl, hz⟩ := hp31
        rw [hz]
        exact V.ret_int hB dX3_bestMap_34 rfl ⟨_, rfl, MP.no hX (by simp [q_best, nI_m1 (show k < 2 ^ 31 by omega), stN_some hk (Nat.le_trans hn6 (by decide)), rfq_6 hrf]) (by decide) (by decide +kernel)⟩
      · rw [hz]
        refine V.goto (q := 24) dX3_bestMap_20 (by decide) ?_
        refine V.ist3 (q := 25) dX3_bestMap_24 rfl ?_
        refine V.iload_n (q := 26) dX3_bestMap_25 rfl rfl ?_
        refine V.ifN_eq (t := 35) (q := 29) dX3_bestMap_26 (by decide) rfl (by omega) (fun c26 => ?_) (fun c26 => absurd c26 (by decide +kernel))
        refine V.aload_n (q := 36) dX3_bestMap_35 rfl rfl ?_
        refine V.bipush (q := 38) (v := (-9)) dX3_bestMap_36 rfl (by decide +kernel) ?_
        refine V.putI (q := 41) dX3_bestMap_38 rfl kp_X3_168 rfl (by decide) rfl rfl rfl ?_
        have hY0 := hY.w3 (k := 17) (v := -9) (by decide) (by decide)
        have hS0 := hY0.s
        have hG0 := Gz.rf.w3 (σ := σ) (k := 17) (v := -9) (by decide)
        refine V.aload_n (q := 42) dX3_bestMap_41 rfl rfl ?_
        refine V.cvv0 (q := 45) dX3_bestMap_42 rfl kc_X3_152 rfl (by decide) rfl (hB.rm (by decide)) (Nat.le_of_ble_eq_true rfl) (m_begins hS0) (fun τ42 hp42 => ?_)
        obtain ⟨hM1, hS1, hF1⟩ := hp42
        have hG1 := hG0.c hF1 (by decide)
        have hY1 : YA τ42 n y 6 6 τ := ⟨hS1, by rw [hF1 43 (by decide)]; exact hY0.2⟩
        have hQ1 : MPq τ42 n y τ [] (55, []) 0 := ⟨hY1, hM1, Or.inl ⟨rfl, by rw [hF1 43 (by decide), w2_at]⟩, fun q hq => absurd hq (by simp), fun q hq => absurd hq (by simp), by decide, fun t ht => by simp⟩
        refine V.aload_n (q := 46) dX3_bestMap_45 rfl rfl ?_
        refine V.iconst (q := 47) (v := nI 0) dX3_bestMap_46 rfl (by decide +kernel) ?_
        refine V.iconst (q := 48) (v := nI 0) dX3_bestMap_47 rfl (by decide +kernel) ?_
        refine V.iload_n (q := 49) dX3_bestMap_48 rfl rfl ?_
        refine V.cvv3 (q := 52) dX3_bestMap_49 rfl kc_X3_171 rfl (by decide) rfl (hB.rm (by omega)) (Nat.le_of_ble_eq_true rfl) (m_maps (j := j) hy9 hj2 hn6 n _ [] (55, []) 0 hQ1 (by simp)) (fun τ49 hp49 => ?_)
        obtain ⟨hY2, hM2, hG2, hL2, -⟩ := hp49
        have hG3 := hG1.tr hG2
        have hL3 : LB τ49 n (bmM n y τ j) := hL2
        have hb3 := bm_54 (n := n) (y := y) (τ := τ) (j := j) hn6 hS.w
        refine V.iload_n (q := 53) dX3_bestMap_52 rfl rfl ?_
        refine V.ifN_ge (t := 63) (q := 56) dX3_bestMap_53 (by decide) rfl (by omega) (fun c53 => ?_) (fun c53 => absurd c53 (by omega))
        refine V.aload_n (q := 64) dX3_bestMap_63 rfl rfl ?_
        refine V.getR (q := 67) dX3_bestMap_64 rfl kf_X3_50 rfl (by decide) rfl ?_
        refine V.iload_n (q := 68) dX3_bestMap_67 rfl rfl ?_
        refine V.ialdN (q := 69) dX3_bestMap_68 rfl rfl (by decide) (by omega) (by decide) (LB.b hL3 hb3 hk) ?_
        exact V.ret_int hB dX3_bestMap_69 rfl ⟨_, rfl, MP.yes hX (hY2) (hG3) (by simp [q_best, nI_m1 (show k < 2 ^ 31 by omega), stN_some hk (Nat.le_trans hn6 (by decide)), rfq_in hj1 hj2 (show 30 < 2 ^ 20 by decide), tn_nI (show j < 2 ^ 31 by omega)])⟩
    · rw [hz]
      refine V.ifN_eq (t := 23) (q := 13) dX3_bestMap_10 (by decide) rfl (by omega) (fun c10 => ?_) (fun c10 => absurd c10 (by decide +kernel))
      refine V.iconst (q := 24) (v := (-1)) dX3_bestMap_23 rfl (by decide +kernel) ?_
      refine V.ist3 (q := 25) dX3_bestMap_24 rfl ?_
      refine V.iload_n (q := 26) dX3_bestMap_25 rfl rfl ?_
      refine V.if_eq (t := 35) (q := 29) dX3_bestMap_26 (by decide) rfl  (fun c26 => absurd c26 (by decide +kernel)) (fun c26 => ?_)
      refine V.aload_n (q := 30) dX3_bestMap_29 rfl rfl ?_
      refine V.iload_n (q := 31) dX3_bestMap_30 rfl rfl ?_
      refine V.cvi1 (q := 34) dX3_bestMap_31 rfl kc_X3_71 rfl (by decide) rfl (hB.rm (by decide)) (Nat.le_of_ble_eq_true rfl) (m_refuse hX (k := 1) (v := -1) (by decide) (by decide) (by decide +kernel)) (fun r31 τ31 hp31 => ?_)
      obtain ⟨rfl, hz⟩ := hp31
      rw [hz]
      exact V.ret_int hB dX3_bestMap_34 rfl ⟨_, rfl, MP.no hX (by simp [q_best, c2, stN_none hsk]) (by decide) (by decide +kernel)⟩

