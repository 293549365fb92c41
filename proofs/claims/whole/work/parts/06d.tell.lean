/-! a street more, and copies -/
def adV (a b c d f : Nat) : Nat := if f = 0 then a else if f = 1 then b else if f = 2 then c else if f = 3 then d else if f = 4 then 9 else 0
def addM (n : Nat) (τ : Nat → Nat → Nat) (a b c d : Nat) : Nat → Nat → Nat := fun f i => if i = n then adV a b c d f else τ f i
def addS (σ : Sg) (t n a b c d : Nat) : Sg := w2 (w2 (w2 (w2 (w2 (w2 (w2 (w2 σ (t + 1) n (nI a)) (t + 2) n (nI b)) (t + 3) n (nI c)) (t + 4) n (nI d)) (t + 5) n (nI 9)) (t + 6) n (nI 0)) (t + 7) n (nI 0)) t 8 (nI (n + 1))
theorem addS_fr {σ : Sg} {t n a b c d : Nat} : Fr t σ (addS σ t n a b c d) :=
  (((((((Fr.rf.w (by omega) (by omega)).w (by omega) (by omega)).w (by omega) (by omega)).w (by omega) (by omega)).w (by omega) (by omega)).w (by omega) (by omega)).w (by omega) (by omega)).w (by omega) (by omega)
theorem TA.add {σ : Sg} {t n y z l a b c d : Nat} {τ : Nat → Nat → Nat} (h : TA σ t n y z l τ) (hn : n < 6) (ha : a ≤ 5) (hb : b ≤ 9) (hc : c ≤ 3) (hd : d ≤ 4) : TA (addS σ t n a b c d) t (n + 1) y z l (addM n τ a b c d) := by
  refine ⟨by omega, h.yb, ?_, ?_, ?_, ?_, fun f hf i hi => ?_, fun i hi => ?_⟩
  · simp [addS, w2_rd]
  · simp [addS, w2_rd]; exact h.n9
  · simp [addS, w2_rd]; exact h.n10
  · simp [addS, w2_rd]; exact h.n11
  · have hf2 : f = 0 ∨ f = 1 ∨ f = 2 ∨ f = 3 ∨ f = 4 ∨ f = 5 ∨ f = 6 := by omega
    by_cases hin : i = n
    · subst hin
      rcases hf2 with rfl | rfl | rfl | rfl | rfl | rfl | rfl <;> simp [addS, w2_rd, addM, adV]
    · have hlt : i < n := by omega
      have := h.a f hf hlt
      rcases hf2 with rfl | rfl | rfl | rfl | rfl | rfl | rfl <;> (simp [addS, w2_rd, addM, hin]; exact this)
  · by_cases hin : i = n
    · subst hin
      simp [addM, adV]; omega
    · have := h.w i (by omega)
      simp only [addM, if_neg hin]; omega
theorem w2_comm {σ : Sg} {o k o1 k1 : Nat} {x x1 : Int32} (h : ¬ (o = o1 ∧ k = k1)) : w2 (w2 σ o k x) o1 k1 x1 = w2 (w2 σ o1 k1 x1) o k x := by
  funext q j
  simp only [w2_rd]
  by_cases h1 : q = o1 ∧ j = k1
  · rw [if_pos h1, if_neg (fun h2 => h ⟨by rw [← h2.1, h1.1], by rw [← h2.2, h1.2]⟩), if_pos h1]
  · rw [if_neg h1, if_neg h1]
theorem addS_lk {σ : Sg} {t n a b c d k : Nat} {x : Int32} (hk : k ≠ n) : addS (w2 σ (t + 6) k x) t n a b c d = w2 (addS σ t n a b c d) (t + 6) k x := by
  unfold addS
  rw [w2_comm (o := t + 6) (k := k) (o1 := t + 1) (by omega), w2_comm (o := t + 6) (k := k) (o1 := t + 2) (by omega), w2_comm (o := t + 6) (k := k) (o1 := t + 3) (by omega), w2_comm (o := t + 6) (k := k) (o1 := t + 4) (by omega), w2_comm (o := t + 6) (k := k) (o1 := t + 5) (by omega), w2_comm (o := t + 6) (k := k) (o1 := t + 6) (by omega), w2_comm (o := t + 6) (k := k) (o1 := t + 7) (by omega), w2_comm (o := t + 6) (k := k) (o1 := t) (by omega)]
/-- "s": a street more, which the last one's dweller mends, if he mended 0 -/
def tellM (n : Nat) (τ : Nat → Nat → Nat) (a b c d : Nat) : Nat → Nat → Nat := if 0 < n ∧ τ 5 (n - 1) = 0 then setF (addM n τ a b c d) 5 (upN (addM n τ a b c d 5) (n - 1) n) else addM n τ a b c d
/-- OUT: who mended it mends what its dweller did -/
def leaveM (τ : Nat → Nat → Nat) (k : Nat) : Nat → Nat → Nat := setF τ 5 (fun q => if τ 5 q = k then τ 5 k else τ 5 q)
/-- PUT -/
def putM (n : Nat) (τ : Nat → Nat → Nat) (k d : Nat) : Nat → Nat → Nat := fun f i =>
  if i = n then (if f = 3 then d else if f = 5 then τ 5 k else 0) else if f = 5 ∧ i = k then n else τ f i
theorem isT_apart {t u : Nat} (ht : isT t) (hu : isT u) (h : t ≠ u) : t + 9 ≤ u ∨ u + 9 ≤ t := by
  rcases ht with rfl | rfl | rfl | rfl <;> rcases hu with rfl | rfl | rfl | rfl <;> omega
theorem V.nm {x : Cx} {own : String} {cc : ByteArray} {nL pc : Nat} {L : List (Option Value)} {st : List Value} {σ : Sg} (h : ∀ σ' : Sg, σ' = σ → V x own cc nL pc L st σ') : V x own cc nL pc L st σ := h σ rfl
def cpd (σ σ1 : Sg) (t u i : Nat) : Prop := Fr t σ σ1 ∧ ∀ f, f < i → ∀ k, k < 6 → σ1 (t + (f + 1)) k = σ (u + (f + 1)) k
theorem cpd0 {σ : Sg} {t u : Nat} : cpd σ σ t u 0 := ⟨Fr.rf, fun f hf => absurd hf (by omega)⟩
theorem cpd_s {σ σ1 σ2 : Sg} {t u : Nat} (i : Nat) (hap : t + 9 ≤ u ∨ u + 9 ≤ t) (hi : i < 7) (h : cpd σ σ1 t u i) (e : σ2 = so σ1 (t + (i + 1)) (fun k => if k < 6 then σ1 (u + (i + 1)) k else σ1 (t + (i + 1)) k)) : cpd σ σ2 t u (i + 1) := by
  subst e
  refine ⟨fun o ho => by rw [so_ne (by omega)]; exact h.1 o ho, fun f hf k hk => ?_⟩
  by_cases hfi : f = i
  · subst hfi
    rw [so_at, if_pos hk, h.1 _ (by omega)]
  · rw [so_ne (by omega)]
    exact h.2 f (by omega) k hk
