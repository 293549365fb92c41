theorem m_num1 {σ : Sg} {m p : Nat} {cs : Nat → Nat} (hR : RD σ m cs p) (hpm : p ≤ 80) {k : Nat} (hk : k < 4) : Con 2 yX3_readsNumber cX3_readsNumber 4 (some .boolean) [.ref 43, .int (nI k), .int (nI 1)] σ (PI (fun r σ1 => (r = nI 1 ∧ dgP m cs p ∧ σ1 50 k = nI (dgV (cs p)) ∧ RD σ1 m cs (p + 1) ∧ Gr σ σ1 ∧ ∀ q, q ≠ k → σ1 50 q = σ 50 q) ∨ (r = nI 0 ∧ ¬ dgP m cs p ∧ RD σ1 m cs p ∧ Gr σ σ1))) :=
  (m_readsNumber hR hpm hk (most := 1) (by decide)).weaken (fun r σ1 h => by
    obtain ⟨v, e1, n, hn, hd, hf, hv, h50, hR1, hG, hq⟩ := h
    refine ⟨v, e1, ?_⟩
    rcases (show n = 0 ∨ n = 1 by omega) with rfl | rfl
    · exact Or.inr ⟨hv, hf.resolve_left (by decide), hR1, hG⟩
    · have h0 : dgP m cs p := hd 0 (by decide)
      refine Or.inl ⟨hv, h0, ?_, hR1, hG, hq⟩
      rw [h50]
      show nI (10 * 0 + (cs p - 48)) = nI (dgV (cs p))
      unfold dgV; rw [if_pos h0.2]; congr 1; omega)
theorem m_num2 {σ : Sg} {m p : Nat} {cs : Nat → Nat} (hR : RD σ m cs p) (hpm : p ≤ 80) {k : Nat} (hk : k < 4) : Con 2 yX3_readsNumber cX3_readsNumber 4 (some .boolean) [.ref 43, .int (nI k), .int (nI 2)] σ (PI (fun r σ1 => (r = nI 1 ∧ dgP m cs p ∧ dgP m cs (p + 1) ∧ σ1 50 k = nI (10 * dgV (cs p) + dgV (cs (p + 1))) ∧ RD σ1 m cs (p + 2) ∧ Gr σ σ1 ∧ ∀ q, q ≠ k → σ1 50 q = σ 50 q) ∨ (r = nI 1 ∧ dgP m cs p ∧ ¬ dgP m cs (p + 1) ∧ σ1 50 k = nI (dgV (cs p)) ∧ RD σ1 m cs (p + 1) ∧ Gr σ σ1 ∧ ∀ q, q ≠ k → σ1 50 q = σ 50 q) ∨ (r = nI 0 ∧ ¬ dgP m cs p ∧ RD σ1 m cs p ∧ Gr σ σ1))) :=
  (m_readsNumber hR hpm hk (most := 2) (by decide)).weaken (fun r σ1 h => by
    obtain ⟨v, e1, n, hn, hd, hf, hv, h50, hR1, hG, hq⟩ := h
    refine ⟨v, e1, ?_⟩
    rcases (show n = 0 ∨ n = 1 ∨ n = 2 by omega) with rfl | rfl | rfl
    · exact Or.inr (Or.inr ⟨hv, hf.resolve_left (by decide), hR1, hG⟩)
    · have h0 : dgP m cs p := hd 0 (by decide)
      refine Or.inr (Or.inl ⟨hv, h0, hf.resolve_left (by decide), ?_, hR1, hG, hq⟩)
      rw [h50]
      show nI (10 * 0 + (cs p - 48)) = nI (dgV (cs p))
      unfold dgV; rw [if_pos h0.2]; congr 1; omega
    · have h0 : dgP m cs p := hd 0 (by decide)
      have h1 := hd 1 (by decide)
      refine Or.inl ⟨hv, h0, h1, ?_, hR1, hG, hq⟩
      rw [h50]
      show nI (10 * (10 * 0 + (cs p - 48)) + (cs (p + 1) - 48)) = nI (10 * dgV (cs p) + dgV (cs (p + 1)))
      unfold dgV; rw [if_pos h0.2, if_pos h1.2]; congr 1; omega)
-- setIn
set_option maxHeartbeats 4000000 in
set_option maxRecDepth 100000 in
theorem m_setIn {σ : Sg} {i k : Nat} {v : Int32} (h : 2 + 7 * i + k < 51) : Con 1 yX3_setIn cX3_setIn 4 none [.ref 47, .int (nI i), .int (nI k), .int v] σ (PV (fun σ1 => σ1 = w2 σ 47 (2 + 7 * i + k) v)) := by
  refine Con.of (by decide) (by simp [Value.category]) (Nat.le_of_ble_eq_true rfl) (fun x hB => ?_)
  show V x RX3 cX3_setIn 4 0 [some (.ref 47), some (.int (nI i)), some (.int (nI k)), some (.int v)] [] _
  refine V.aload_n (q := 1) dX3_setIn_0 rfl rfl ?_
  refine V.iconst (q := 2) (v := nI 2) dX3_setIn_1 rfl (by decide +kernel) ?_
  refine V.bipush (q := 4) (v := nI 7) dX3_setIn_2 rfl (by decide +kernel) ?_
  refine V.iload_n (q := 5) dX3_setIn_4 rfl rfl ?_
  refine V.imulN (q := 6) dX3_setIn_5 rfl ?_
  refine V.iaddN (q := 7) dX3_setIn_6 rfl ?_
  refine V.iload_n (q := 8) dX3_setIn_7 rfl rfl ?_
  refine V.iaddN (q := 9) dX3_setIn_8 rfl ?_
  refine V.iload_n (q := 10) dX3_setIn_9 rfl rfl ?_
  refine V.iastN (q := 11) dX3_setIn_10 rfl rfl (by decide) (by omega) (by decide) ?_
  exact V.ret_v hB dX3_setIn_11 ⟨rfl, rfl⟩

