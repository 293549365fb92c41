/-! more questions, and what changes -/
def chI (g : Nat → Nat → Nat) (one : Nat) (s : Nat × Int32) : Nat → Nat × Int32
  | 0 => s
  | o + 1 => if g one o < (chI g one s o).1 then (g one o, nI (10 * one + o)) else chI g one s o
def chO (g : Nat → Nat → Nat) (n : Nat) (s : Nat × Int32) : Nat → Nat × Int32
  | 0 => s
  | i + 1 => chI g i (chO g n s i) n
theorem chI_n {g : Nat → Nat → Nat} {one o : Nat} {s : Nat × Int32} (h : ¬ g one o < (chI g one s o).1) : chI g one s (o + 1) = chI g one s o := by
  conv => lhs; unfold chI
  rw [if_neg h]
theorem chI_y {g : Nat → Nat → Nat} {one o : Nat} {s : Nat × Int32} (h : g one o < (chI g one s o).1) : chI g one s (o + 1) = (g one o, nI (10 * one + o)) := by
  conv => lhs; unfold chI
  rw [if_pos h]
def chG (n y : Nat) (τ : Nat → Nat → Nat) (j : Nat) (a b : Nat) : Nat := sumK (yM n y (setF τ 5 (upN (τ 5) a b)) j 1) n
def q_change (n y : Nat) (τ : Nat → Nat → Nat) (v : Int32) : Nat × Int32 := rfq v 1 30 (chO (chG n y τ (tn v)) n (sumK (yM n y τ (tn v) 1) n, -9) n).2
def cuK (g : Nat → Nat) : Nat → Nat × Nat
  | 0 => (55, 0)
  | k + 1 => if g k < (cuK g k).1 then (g k, k) else cuK g k
theorem cuK_n {g : Nat → Nat} {k : Nat} (h : ¬ g k < (cuK g k).1) : cuK g (k + 1) = cuK g k := by
  conv => lhs; unfold cuK
  rw [if_neg h]
theorem cuK_y {g : Nat → Nat} {k : Nat} (h : g k < (cuK g k).1) : cuK g (k + 1) = (g k, k) := by
  conv => lhs; unfold cuK
  rw [if_pos h]
def cuG (n y : Nat) (τ : Nat → Nat → Nat) (j k : Nat) (a : Nat) : Nat := sumK (yM n y (setF τ 0 (upN (τ 0) k a)) j 1) n
def q_cure (n y : Nat) (τ : Nat → Nat → Nat) (v w : Int32) : Nat × Int32 := match stN v n with
  | none => (1, 0)
  | some k => rfq w 1 30 (nI (cuK (cuG n y τ (tn w) k) 6).2)
def q_putIn (n y : Nat) (τ : Nat → Nat → Nat) (v w u : Int32) : Nat × Int32 := match stN v n with
  | none => (1, 0)
  | some k => if w < 0 ∨ u < nI 1 then (4, 0) else if nI 4 < w ∨ nI 30 < u ∨ n = 6 then (6, 0)
    else (0, nI (sumK (yrsM (n + 1) y 6 6 (putM n τ k (tn w)) (tn u) 1) (n + 1)))
def q_takeOut (n y : Nat) (τ : Nat → Nat → Nat) (v w : Int32) : Nat × Int32 := match stN v n with
  | none => (1, 0)
  | some k => rfq w 1 30 (nI (sumK (yrsM n y 6 k (leaveM τ k) (tn w) 1) n) - nI (yrsM n y 6 k (leaveM τ k) (tn w) 1 k))
def ftB (n : Nat) (ro g : Nat → Nat) : Bool := (List.range n).all (fun i => decide (ro i = g i))
theorem ftB_iff {n : Nat} {ro g : Nat → Nat} : ftB n ro g = true ↔ ∀ i, i < n → ro i = g i := by
  unfold ftB
  rw [List.all_eq_true]
  constructor
  · intro h i hi; exact of_decide_eq_true (h i (List.mem_range.mpr hi))
  · intro h i hi; exact decide_eq_true (h i (List.mem_range.mp hi))
def q_fitting (n y : Nat) (τ : Nat → Nat → Nat) (rl : Nat) (ro : Nat → Nat) (v w : Int32) : Nat × Int32 := match stN v n with
  | none => (1, 0)
  | some k => if rfN w 1 30 = 0 then (if rl = n then (0, nI (bsK (fun a => ftB n ro (yM n y (setF τ 0 (upN (τ 0) k a)) (tn w) 1)) 6)) else (3, 0)) else (rfN w 1 30, 0)
def fnM (rl n : Nat) (ro g : Nat → Nat) : Int32 := match fsK (fun i => decide (ro i ≠ g i)) (min rl n) with
  | some i => nI i
  | none => if rl = n then -9 else nI (min rl n)
def wv (z : Int32) : Nat := z.toBitVec.toNat % 2 ^ 31 / 256 % 4
def z1 (z : Int32) : Int32 := z * 1664525 + 1013904223
def zK (z : Int32) : Nat → Int32
  | 0 => z
  | k + 1 => z1 (zK z k)
def sdM (n y : Nat) (τ : Nat → Nat → Nat) (z : Int32) : Nat → Int32 × (Nat → Nat → Nat)
  | 0 => (z, τ)
  | p + 1 => (zK (sdM n y τ z p).1 n, yrM n (y + p) 6 6 (setF (sdM n y τ z p).2 2 (fun s => wv (zK (sdM n y τ z p).1 (s + 1)))))
def q_seeds (n y : Nat) (τ : Nat → Nat → Nat) (v w : Int32) : Nat × Int32 := rfq v 1 30 (nI (sumK ((sdM n y τ w (tn v)).2 1) n))
def q_count (n y : Nat) (τ : Nat → Nat → Nat) (rl m : Nat) (rc : Nat → Nat) (v : Int32) : Nat × Int32 := match stN v 17 with
  | none => (0, -9)
  | some k => if 11 ≤ k then (0, nI (rc (k - 10))) else if k = 0 then (0, nI n) else if k = 1 then (0, nI y) else if k = 2 then (0, nI (sumK (τ 1) n))
    else if k = 3 then (0, nI (sumK (τ 4) n)) else if k = 4 then (0, nI rl) else if k = 5 then (0, nI m) else (0, -9)
def q_letter (m : Nat) (v : Int32) : Nat × Int32 := if rfN v 0 255 = 0 then (if m = 64 then (6, 0) else (0, nI (m + 1))) else (rfN v 0 255, 0)
def q_row (rl : Nat) (v : Int32) : Nat × Int32 := if rfN v 0 9 = 0 then (if rl = 6 then (6, 0) else (0, nI (rl + 1))) else (rfN v 0 9, 0)
theorem sumK_b {n : Nat} {τ : Nat → Nat → Nat} (h : WFt n τ) (hn : n ≤ 6) : sumK (τ 1) n ≤ 54 := by
  have := sumK_le (g := τ 1) (b := 9) (n := n) (fun i hi => (h i hi).2.1) n (Nat.le_refl n)
  omega
theorem wvI {z : Int32} : (z &&& 2147483647) / nI 256 - (z &&& 2147483647) / nI 256 / nI 4 * nI 4 = nI (wv z) := by
  have h := Nat.mod_lt z.toBitVec.toNat (show 2 ^ 31 > 0 by decide)
  rw [pk_and z 31 (by decide +kernel), pk_div (by omega) (by decide) (by decide), pk_rem (by omega) (by decide) (by decide)]
  rfl
theorem wv_le (z : Int32) : wv z ≤ 3 := by unfold wv; omega
theorem i2c_all : ∀ j, j < 256 → ((nI j).toUInt32 % 65536).toInt32 = nI j := by decide +kernel
section XS
variable {σ σ1 : Sg} {n y : Nat} {τ : Nat → Nat → Nat} {fl n2 y2 : Nat} {τ2 : Nat → Nat → Nat} {m : Nat} {cs : Nat → Nat} {rl : Nat} {ro rc : Nat → Nat}
theorem XR.app {c : Nat} (h : XR σ n y τ fl n2 y2 τ2 m cs rl ro rc) (hm : m < 64) (hc : c < 256) : XR (w2 (w2 σ 38 m (nI c)) 37 1 (nI (m + 1))) n y τ fl n2 y2 τ2 (m + 1) (upN cs m c) rl ro rc := by
  obtain ⟨⟨a1, a2⟩, ⟨b1, b2, b3⟩, c1, ⟨d1, d2, d3⟩, e⟩ := h
  refine ⟨⟨(a1.wo (fun h9 => by omega)).wo (fun h9 => by omega), a2⟩, ⟨?_, b2, fun h9 => ⟨((b3 h9).1.wo (fun h9 => by omega)).wo (fun h9 => by omega), (b3 h9).2⟩⟩, c1.app hm hc, ⟨?_, d2, ?_⟩, ?_⟩
  · rw [w2_ne (by decide), w2_ne (by decide)]; exact b1
  · rw [w2_ne (by decide), w2_ne (by decide)]; exact d1
  · rw [w2_ne (by decide), w2_ne (by decide)]; exact d3
  · rw [w2_ne (by decide), w2_ne (by decide)]; exact e
theorem XR.clr (h : XR σ n y τ fl n2 y2 τ2 m cs rl ro rc) : XR (w2 σ 37 1 (nI 0)) n y τ fl n2 y2 τ2 0 cs rl ro rc := by
  obtain ⟨⟨a1, a2⟩, ⟨b1, b2, b3⟩, c1, ⟨d1, d2, d3⟩, e⟩ := h
  refine ⟨⟨a1.wo (fun h9 => by omega), a2⟩, ⟨?_, b2, fun h9 => ⟨(b3 h9).1.wo (fun h9 => by omega), (b3 h9).2⟩⟩, ⟨by decide, by rw [w2_at], fun i hi => absurd hi (by omega)⟩, ⟨?_, d2, ?_⟩, ?_⟩
  · rw [w2_ne (by decide)]; exact b1
  · rw [w2_ne (by decide)]; exact d1
  · rw [w2_ne (by decide)]; exact d3
  · rw [w2_ne (by decide)]; exact e
theorem XR.row {c : Nat} (h : XR σ n y τ fl n2 y2 τ2 m cs rl ro rc) (hr : rl < 6) (hc : c ≤ 9) : XR (w2 (w2 σ 41 rl (nI c)) 0 9 (nI (rl + 1))) n y τ fl n2 y2 τ2 m cs (rl + 1) (upN ro rl c) rc := by
  obtain ⟨⟨a1, a2⟩, ⟨b1, b2, b3⟩, c1, ⟨d1, d2, d3⟩, e⟩ := h
  refine ⟨⟨(a1.wo (fun h9 => by omega)).wo (fun h9 => by omega), a2⟩, ⟨?_, b2, fun h9 => ⟨((b3 h9).1.wo (fun h9 => by omega)).wo (fun h9 => by omega), (b3 h9).2⟩⟩, ⟨c1.1, ?_, ?_⟩, ⟨by rw [w2_at], by omega, fun i hi => ?_⟩, ?_⟩
  · rw [w2_nk (by decide), w2_ne (by decide)]; exact b1
  · rw [w2_ne (by decide), w2_ne (by decide)]; exact c1.2.1
  · rw [w2_ne (by decide), w2_ne (by decide)]; exact c1.2.2
  · rw [w2_ne (by decide), w2_rd]; unfold upN
    by_cases h9 : i = rl
    · rw [if_pos ⟨rfl, h9⟩, if_pos h9]; exact ⟨rfl, hc⟩
    · rw [if_neg (fun q => h9 q.2), if_neg h9]; exact d3 i (by omega)
  · rw [w2_ne (by decide), w2_ne (by decide)]; exact e
theorem XR.rl00 (h : XR σ n y τ fl n2 y2 τ2 m cs rl ro rc) : XR (w2 σ 0 9 (nI 0)) n y τ fl n2 y2 τ2 m cs 0 ro rc := by
  obtain ⟨⟨a1, a2⟩, ⟨b1, b2, b3⟩, c1, ⟨d1, d2, d3⟩, e⟩ := h
  refine ⟨⟨a1.wo (fun h9 => by omega), a2⟩, ⟨?_, b2, fun h9 => ⟨(b3 h9).1.wo (fun h9 => by omega), (b3 h9).2⟩⟩, ⟨c1.1, ?_, ?_⟩, ⟨by rw [w2_at], by decide, fun i hi => absurd hi (by omega)⟩, ?_⟩
  · rw [w2_nk (by decide)]; exact b1
  · rw [w2_ne (by decide)]; exact c1.2.1
  · rw [w2_ne (by decide)]; exact c1.2.2
  · rw [w2_ne (by decide)]; exact e
theorem XR.img (h : XR σ n y τ fl n2 y2 τ2 m cs rl ro rc) (hT : TA σ1 10 n y 6 6 τ) (hF : Fr 10 σ σ1) : XR (w2 σ1 0 10 (nI 1)) n y τ 1 n y τ m cs rl ro rc := by
  obtain ⟨⟨a1, a2⟩, ⟨b1, b2, b3⟩, c1, ⟨d1, d2, d3⟩, e⟩ := h
  refine ⟨⟨(a1.ot hF (by decide)).wo (fun h9 => by omega), a2⟩, ⟨by rw [w2_at], Nat.le_refl 1, fun _ => ⟨hT.wo (fun h9 => by omega), a2⟩⟩, ⟨c1.1, ?_, ?_⟩, ⟨?_, d2, ?_⟩, ?_⟩
  · rw [w2_ne (by decide), hF 37 (by decide)]; exact c1.2.1
  · rw [w2_ne (by decide), hF 38 (by decide)]; exact c1.2.2
  · rw [w2_nk (by decide), hF 0 (by decide)]; exact d1
  · rw [w2_ne (by decide), hF 41 (by decide)]; exact d3
  · rw [w2_ne (by decide), hF 42 (by decide)]; exact e
theorem XR.bk (h : XR σ n y τ fl n2 y2 τ2 m cs rl ro rc) (hf : fl = 1) : TA σ 10 n2 y2 6 6 τ2 ∧ y2 ≤ 999 := h.2.1.2.2 hf
end XS
