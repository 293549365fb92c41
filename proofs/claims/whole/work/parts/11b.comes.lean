-- setIn
set_option maxHeartbeats 4000000 in
set_option maxRecDepth 100000 in
theorem m_setIn {σ : Sg} {i k : Nat} {v : Int32} (h : 2 + 7 * i + k < 51) : Con 1 yX3_setIn cX3_setIn 4 none [.ref 47, .int (nI i), .int (nI k), .int v] σ (PV (fun σ1 => σ1 = w2 σ 47 (2 + 7 * i + k) v)) := by
  refine Con.of (by decide) (by simp [Value.category]) (Nat.le_of_ble_eq_true rfl) (fun x hB => ?_)
  show V x RX3 cX3_setIn 4 0 [some (.ref 47), some (.int (nI i)), some (.int (nI k)), some (.int v)] [] _
  refine V.aload_n (q := 1) dX3_setIn_0 rfl rfl ?_
  refine V.iconst (q := 2) (v := nI 2) dX3_setIn_1 rfl (by decide +kernel) ?_
  refine V.bipush (q := 4) (v := nI 7) dX3_setIn_2 rfl (by decide +kernel) ?_
  refine V.iload_n (q := 5) dX3_setIn_4 rfl rfl ?_
  refine V.imulN (q := 6) dX3_setIn_5 rfl ?_
  refine V.iaddN (q := 7) dX3_setIn_6 rfl ?_
  refine V.iload_n (q := 8) dX3_setIn_7 rfl rfl ?_
  refine V.iaddN (q := 9) dX3_setIn_8 rfl ?_
  refine V.iload_n (q := 10) dX3_setIn_9 rfl rfl ?_
  refine V.iastN (q := 11) dX3_setIn_10 rfl rfl (by decide) (by omega) (by decide) ?_
  exact V.ret_v hB dX3_setIn_11 ⟨rfl, rfl⟩

