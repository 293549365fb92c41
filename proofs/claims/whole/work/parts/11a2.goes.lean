/-! what is due, letter by letter: from place p in state s to place q in state t -/
def Rn (m : Nat) (cs : Nat → Nat) (p s q t : Nat) : Prop := p ≤ q ∧ ∀ f, dR m cs (f + (q - p)) p s = dR m cs f q t
theorem Rn.rf {m p s : Nat} {cs : Nat → Nat} : Rn m cs p s p s := ⟨Nat.le_refl p, fun f => by rw [Nat.sub_self, Nat.add_zero]⟩
theorem Rn.st {m p s q t u : Nat} {cs : Nat → Nat} (h : Rn m cs p s q t) (hq : q < m) (hd : dueM t (cs q) = some u) : Rn m cs p s (q + 1) u := by
  refine ⟨by have := h.1; omega, fun f => ?_⟩
  have h1 := h.1
  rw [show f + (q + 1 - p) = (f + 1) + (q - p) by omega, h.2, dR_k hq hd]
theorem dR_fl {m p s : Nat} {cs : Nat → Nat} (hs : s ≠ 0 ∨ p < m) (hp : p ≤ m) (h : p < m → dueM s (cs p) = none) : ∀ f, m < p + f → dR m cs f p s = some p
  | 0, hf => by omega
  | f + 1, hf => by
    by_cases h1 : p < m
    · exact dR_n h1 (h h1)
    · unfold dR
      have : m = p := by omega
      rw [if_neg h1, if_neg (by omega), this]
theorem Rn.fl {m p s q t : Nat} {cs : Nat → Nat} (h : Rn m cs p s q t) (hs : t ≠ 0 ∨ q < m) (hq : q ≤ m) (hd : q < m → dueM t (cs q) = none) : ∀ f, m < p + f → dR m cs f p s = some q := by
  intro f hf
  have h1 := h.1
  obtain ⟨g, rfl⟩ : ∃ g, f = g + (q - p) := ⟨f - (q - p), by omega⟩
  rw [h.2]
  exact dR_fl hs hq hd g (by omega)
theorem due_dg {s c u : Nat} (hs : s = 2 ∧ u = 3 ∨ s = 3 ∧ u = 4 ∨ s = 4 ∧ u = 5 ∨ s = 6 ∧ u = 7 ∨ s = 8 ∧ u = 9) : dueM s c = dgO c u := by
  rcases hs with ⟨rfl, rfl⟩ | ⟨rfl, rfl⟩ | ⟨rfl, rfl⟩ | ⟨rfl, rfl⟩ | ⟨rfl, rfl⟩ <;> rfl
