/-! a town told in letters -/
def ffO (m : Nat) (cs : Nat → Nat) : Option Nat := if m = 0 then some 0 else dR m cs m 0 0
theorem ffM_eq {m : Nat} {cs : Nat → Nat} : ffM m cs = dI (ffO m cs) := by
  unfold ffM ffO
  by_cases h : m = 0
  · rw [if_pos h, if_pos h]; rfl
  · rw [if_neg h, if_neg h]
/-- one statement, from its first letter on -/
def stA (m : Nat) (cs : Nat → Nat) (p n : Nat) (τ : Nat → Nat → Nat) : Option (Nat × (Nat → Nat → Nat)) :=
  if chA m cs p = 115 then (if n = 6 ∨ 3 < dgV (chA m cs (p + 3)) ∨ 4 < dgV (chA m cs (p + 4)) then none
    else some (n + 1, tellM n τ ((kdM (chA m cs (p + 1))).getD 0) (dgV (chA m cs (p + 2))) (dgV (chA m cs (p + 3))) (dgV (chA m cs (p + 4)))))
  else if chA m cs p = 109 then (if dgV (chA m cs (p + 1)) < n ∧ dgV (chA m cs (p + 2)) < n then some (n, setF τ 5 (upN (τ 5) (dgV (chA m cs (p + 1))) (dgV (chA m cs (p + 2))))) else none)
  else (if dgV (chA m cs (p + 1)) < n then some (n, setF τ 4 (upN (τ 4) (dgV (chA m cs (p + 1))) (dg2 (chA m cs (p + 3)) (chA m cs (p + 4))))) else none)
/-- the places below p gone through: the place of the fault, or start, how many, and the town -/
def rdM (m : Nat) (cs : Nat → Nat) (n : Nat) (τ : Nat → Nat → Nat) : Nat → Nat ⊕ (Nat × Nat × Nat × (Nat → Nat → Nat))
  | 0 => .inr (0, 0, n, τ)
  | p + 1 => match rdM m cs n τ p with
    | .inl f => .inl f
    | .inr (st, k, n1, τ1) => if chA m cs p = 59 then (match stA m cs st n1 τ1 with
        | none => .inl st
        | some (n9, τ9) => .inr (p + 1, k + 1, n9, τ9)) else .inr (st, k, n1, τ1)
theorem rdM_f {m : Nat} {cs : Nat → Nat} {n : Nat} {τ : Nat → Nat → Nat} {f a : Nat} (h : rdM m cs n τ a = .inl f) : ∀ {b : Nat}, a ≤ b → rdM m cs n τ b = .inl f
  | 0, hb => by have : a = 0 := by omega
                subst this; exact h
  | b + 1, hb => by
    rcases Nat.lt_or_ge b a with h1 | h1
    · have : a = b + 1 := by omega
      subst this; exact h
    · unfold rdM; rw [rdM_f h h1]
def twM (m : Nat) (cs : Nat → Nat) (n : Nat) (τ : Nat → Nat → Nat) : Int32 × Nat × (Nat → Nat → Nat) := match ffO m cs with
  | some j => (-1000 - nI j, n, τ)
  | none => match rdM m cs n τ m with
    | .inl f => (-2000 - nI f, n, τ)
    | .inr (_, k, n1, τ1) => (nI k, n1, τ1)
theorem dg2_le (c d : Nat) : dg2 c d ≤ 99 := by
  have h1 := dgV_le c
  have h2 := dgV_le d
  unfold dg2; split <;> omega
theorem kdM_le : ∀ c, c < 256 → (kdM c).getD 0 ≤ 5 := by decide +kernel
theorem kdI_eq {c : Nat} (h : (kdM c).isSome = true) : kdI c = nI ((kdM c).getD 0) := by
  unfold kdI
  cases h1 : kdM c with
  | none => rw [h1] at h; cases h
  | some k => rfl
theorem due59 {s k : Nat} (h : dueM s 59 = some k) : k = 0 := by
  unfold dueM at h
  have e1 : du0 59 = none := by decide
  have e2 : (kdM 59).isSome = false := by decide
  have e3 : ∀ q, dgO 59 q = none := fun q => by unfold dgO; rw [if_neg (by decide)]
  have e4 : duE 59 = some 0 := by decide
  rw [e1, e2, e4] at h
  simp only [e3] at h
  repeat' split at h
  all_goals first | contradiction | omega | (cases h; done) | (have h9 := Option.some.inj h; omega) | (simp at *; done) | (simp at *; omega)
theorem dR_kd {m f p : Nat} {cs : Nat → Nat} (h : dR m cs (f + 1) p 0 = none) (hp : p < m) (hc : cs p = 115) (hf : m ≤ p + f + 1) : p + 1 < m ∧ (kdM (cs (p + 1))).isSome = true := by
  have e : dueM 0 (cs p) = some 1 := by rw [hc]; decide
  rw [dR_k hp e] at h
  by_cases h1 : p + 1 < m
  · obtain ⟨g, rfl⟩ : ∃ g, f = g + 1 := ⟨f - 1, by omega⟩
    refine ⟨h1, ?_⟩
    cases h2 : dueM 1 (cs (p + 1)) with
    | none => rw [dR_n h1 h2] at h; cases h
    | some k =>
      unfold dueM at h2
      simp at h2
      exact h2.1
  · unfold dR at h
    split at h
    · simp at h
    · simp [h1] at h
