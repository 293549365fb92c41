theorem m_num1 {σ : Sg} {m p : Nat} {cs : Nat → Nat} (hR : RD σ m cs p) (hpm : p ≤ 80) {k : Nat} (hk : k < 4) : Con 2 yX3_readsNumber cX3_readsNumber 4 (some .boolean) [.ref 43, .int (nI k), .int (nI 1)] σ (PI (fun r σ1 => (r = nI 1 ∧ dgP m cs p ∧ σ1 50 k = nI (dgV (cs p)) ∧ RD σ1 m cs (p + 1) ∧ Gr σ σ1 ∧ ∀ q, q ≠ k → σ1 50 q = σ 50 q) ∨ (r = nI 0 ∧ ¬ dgP m cs p ∧ RD σ1 m cs p ∧ Gr σ σ1))) :=
  (m_readsNumber hR hpm hk (most := 1) (by decide)).weaken (fun r σ1 h => by
    obtain ⟨v, e1, n, hn, hd, hf, hv, h50, hR1, hG, hq⟩ := h
    refine ⟨v, e1, ?_⟩
    rcases (show n = 0 ∨ n = 1 by omega) with rfl | rfl
    · exact Or.inr ⟨hv, hf.resolve_left (by decide), hR1, hG⟩
    · have h0 : dgP m cs p := hd 0 (by decide)
      refine Or.inl ⟨hv, h0, ?_, hR1, hG, hq⟩
      rw [h50]
      show nI (10 * 0 + (cs p - 48)) = nI (dgV (cs p))
      unfold dgV; rw [if_pos h0.2]; congr 1; omega)
theorem m_num2 {σ : Sg} {m p : Nat} {cs : Nat → Nat} (hR : RD σ m cs p) (hpm : p ≤ 80) {k : Nat} (hk : k < 4) : Con 2 yX3_readsNumber cX3_readsNumber 4 (some .boolean) [.ref 43, .int (nI k), .int (nI 2)] σ (PI (fun r σ1 => (r = nI 1 ∧ dgP m cs p ∧ dgP m cs (p + 1) ∧ σ1 50 k = nI (10 * dgV (cs p) + dgV (cs (p + 1))) ∧ RD σ1 m cs (p + 2) ∧ Gr σ σ1 ∧ ∀ q, q ≠ k → σ1 50 q = σ 50 q) ∨ (r = nI 1 ∧ dgP m cs p ∧ ¬ dgP m cs (p + 1) ∧ σ1 50 k = nI (dgV (cs p)) ∧ RD σ1 m cs (p + 1) ∧ Gr σ σ1 ∧ ∀ q, q ≠ k → σ1 50 q = σ 50 q) ∨ (r = nI 0 ∧ ¬ dgP m cs p ∧ RD σ1 m cs p ∧ Gr σ σ1))) :=
  (m_readsNumber hR hpm hk (most := 2) (by decide)).weaken (fun r σ1 h => by
    obtain ⟨v, e1, n, hn, hd, hf, hv, h50, hR1, hG, hq⟩ := h
    refine ⟨v, e1, ?_⟩
    rcases (show n = 0 ∨ n = 1 ∨ n = 2 by omega) with rfl | rfl | rfl
    · exact Or.inr (Or.inr ⟨hv, hf.resolve_left (by decide), hR1, hG⟩)
    · have h0 : dgP m cs p := hd 0 (by decide)
      refine Or.inr (Or.inl ⟨hv, h0, hf.resolve_left (by decide), ?_, hR1, hG, hq⟩)
      rw [h50]
      show nI (10 * 0 + (cs p - 48)) = nI (dgV (cs p))
      unfold dgV; rw [if_pos h0.2]; congr 1; omega
    · have h0 : dgP m cs p := hd 0 (by decide)
      have h1 := hd 1 (by decide)
      refine Or.inl ⟨hv, h0, h1, ?_, hR1, hG, hq⟩
      rw [h50]
      show nI (10 * (10 * 0 + (cs p - 48)) + (cs (p + 1) - 48)) = nI (10 * dgV (cs p) + dgV (cs (p + 1)))
      unfold dgV; rw [if_pos h0.2, if_pos h1.2]; congr 1; omega)
-- setIn
set_option maxHeartbeats 4000000 in
set_option maxRecDepth 100000 in
theorem m_setIn {σ : Sg} {i k : Nat} {v : Int32} (h : 2 + 7 * i + k < 51) : Con 1 yX3_setIn cX3_setIn 4 none [.ref 47, .int (nI i), .int (nI k), .int v] σ (PV (fun σ1 => σ1 = w2 σ 47 (2 + 7 * i + k) v)) := by
  refine Con.of (by decide) (by simp [Value.category]) (Nat.le_of_ble_eq_true rfl) (fun x hB => ?_)
  show V x RX3 cX3_setIn 4 0 [some (.ref 47), some (.int (nI i)), some (.int (nI k)), some (.int v)] [] _
  refine V.aload_n (q := 1) dX3_setIn_0 rfl rfl ?_
  refine V.iconst (q := 2) (v := nI 2) dX3_setIn_1 rfl (by decide +kernel) ?_
  refine V.bipush (q := 4) (v := nI 7) dX3_setIn_2 rfl (by decide +kernel) ?_
  refine V.iload_n (q := 5) dX3_setIn_4 rfl rfl ?_
  refine V.imulN (q := 6) dX3_setIn_5 rfl ?_
  refine V.iaddN (q := 7) dX3_setIn_6 rfl ?_
  refine V.iload_n (q := 8) dX3_setIn_7 rfl rfl ?_
  refine V.iaddN (q := 9) dX3_setIn_8 rfl ?_
  refine V.iload_n (q := 10) dX3_setIn_9 rfl rfl ?_
  refine V.iastN (q := 11) dX3_setIn_10 rfl rfl (by decide) (by omega) (by decide) ?_
  exact V.ret_v hB dX3_setIn_11 ⟨rfl, rfl⟩

theorem due1_y {c k : Nat} (h : kdM c = some k) : dueM 1 c = some 2 := by
  show (if (kdM c).isSome = true then some 2 else none) = _
  rw [if_pos (by rw [h]; rfl)]
theorem due1_n {c : Nat} (h : ¬ (kdM c).isSome = true) : dueM 1 c = none := by
  show (if (kdM c).isSome = true then some 2 else none) = _
  rw [if_neg h]
theorem due_y {s c u : Nat} (hs : s = 2 ∧ u = 3 ∨ s = 3 ∧ u = 4 ∨ s = 4 ∧ u = 5 ∨ s = 6 ∧ u = 7 ∨ s = 8 ∧ u = 9) (h : 48 ≤ c ∧ c ≤ 57) : dueM s c = some u := by
  rw [due_dg hs]; unfold dgO; rw [if_pos h]
theorem due_n {s c : Nat} (hs : s = 2 ∨ s = 3 ∨ s = 4 ∨ s = 6 ∨ s = 8) (h : ¬ (48 ≤ c ∧ c ≤ 57)) : dueM s c = none := by
  rcases hs with rfl | rfl | rfl | rfl | rfl <;> (show dgO c _ = none; unfold dgO; rw [if_neg h])
theorem due5_n {c : Nat} (h : c ≠ 59) : dueM 5 c = none := by
  show (if c = 59 then some 0 else none) = none
  rw [if_neg h]
theorem due7_n {c : Nat} (h : c ≠ 44) : dueM 7 c = none := by
  show (if c = 44 then some 8 else none) = none
  rw [if_neg h]
theorem due9_d {c : Nat} (h : 48 ≤ c ∧ c ≤ 57) : dueM 9 c = some 5 := by
  show (if 48 ≤ c ∧ c ≤ 57 then some 5 else duE c) = _
  rw [if_pos h]
theorem due9_n {c : Nat} (h : ¬ (48 ≤ c ∧ c ≤ 57)) (h2 : c ≠ 59) : dueM 9 c = none := by
  show (if 48 ≤ c ∧ c ≤ 57 then some 5 else duE c) = _
  rw [if_neg h]; unfold duE; rw [if_neg h2]
theorem kd59 {c k : Nat} (h : kdM c = some k) : c ≠ 59 := by
  rintro rfl
  revert h; unfold kdM; simp
theorem st_ca {σ : Sg} {m p : Nat} {cs : Nat → Nat} (h : RD σ m cs p) : (p < m ∧ cs p = 115) ∨ (p < m ∧ cs p = 109) ∨ (p < m ∧ cs p = 112) ∨ ((∀ k, (k = 109 ∨ k = 112 ∨ k = 115) → ¬ oI (-1) (sgK m cs p) = nI k) ∧ (p < m → dueM 0 (cs p) = none)) := by
  by_cases hp : p < m
  · have hc := (h.2.2.2.2 p hp).2
    by_cases h1 : cs p = 115
    · exact Or.inl ⟨hp, h1⟩
    · by_cases h2 : cs p = 109
      · exact Or.inr (Or.inl ⟨hp, h2⟩)
      · by_cases h3 : cs p = 112
        · exact Or.inr (Or.inr (Or.inl ⟨hp, h3⟩))
        · refine Or.inr (Or.inr (Or.inr ⟨fun k hk h9 => ?_, fun _ => ?_⟩))
          · unfold sgK at h9; rw [if_pos hp] at h9
            have := (nI_eq (show cs p < 2 ^ 31 by omega) (show k < 2 ^ 31 by omega)).mp h9
            omega
          · show du0 (cs p) = none
            unfold du0; rw [if_neg h1, if_neg h2, if_neg h3]
  · refine Or.inr (Or.inr (Or.inr ⟨fun k hk h9 => ?_, fun h8 => absurd h8 hp⟩))
    unfold sgK at h9; rw [if_neg hp] at h9
    exact nI_m1 (show k < 2 ^ 31 by omega) h9.symm
theorem st_out {v : Int32} (h : ∀ k, (k = 109 ∨ k = 112 ∨ k = 115) → ¬ v = nI k) : Op.lookupswitch.offset [(109, 77), (112, 104), (115, 34)] 140 v.toInt = 140 := by
  rw [lv_osw (h 109 (by simp)) (by decide +kernel), lv_osw (h 112 (by simp)) (by decide +kernel), lv_osw (h 115 (by simp)) (by decide +kernel)]
  rfl
def TO (σ : Sg) (cs : Nat → Nat) (p q : Nat) : Prop :=
  (cs p = 115 ∧ q = p + 6 ∧ σ 50 0 = nI ((kdM (cs (p + 1))).getD 0) ∧ σ 50 1 = nI (dgV (cs (p + 2))) ∧ σ 50 2 = nI (dgV (cs (p + 3))) ∧ σ 50 3 = nI (dgV (cs (p + 4)))) ∨
  (cs p = 109 ∧ q = p + 4 ∧ σ 50 0 = nI (dgV (cs (p + 1))) ∧ σ 50 1 = nI (dgV (cs (p + 2)))) ∨
  (cs p = 112 ∧ σ 50 0 = nI (dgV (cs (p + 1))) ∧ ((q = p + 5 ∧ σ 50 1 = nI (dgV (cs (p + 3))) ∧ ¬ (48 ≤ cs (p + 4) ∧ cs (p + 4) ≤ 57)) ∨ (q = p + 6 ∧ 48 ≤ cs (p + 4) ∧ cs (p + 4) ≤ 57 ∧ σ 50 1 = nI (10 * dgV (cs (p + 3)) + dgV (cs (p + 4))))))
def RS (σ : Sg) (m : Nat) (cs : Nat → Nat) (p : Nat) (r : Int32) (σ1 : Sg) : Prop :=
  (r = nI 1 ∧ ∃ q, q ≤ m ∧ p + 3 < q ∧ Rn m cs p 0 q 0 ∧ RD σ1 m cs q ∧ Gr σ σ1 ∧ cs (q - 1) = 59 ∧ (∀ i, p ≤ i → i < q - 1 → cs i ≠ 59) ∧ TO σ1 cs p q) ∨
  (r = nI 0 ∧ ∃ q, q ≤ m ∧ RD σ1 m cs q ∧ Gr σ σ1 ∧ ((m ≤ p ∧ q = p) ∨ (p < m ∧ ∀ f, m < p + f → dR m cs f p 0 = some q)))
