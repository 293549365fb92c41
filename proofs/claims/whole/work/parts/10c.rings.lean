/-! more streets than there are cannot be met: pigeons -/
theorem php : ∀ (n : Nat) (f : Nat → Nat), (∀ j, j ≤ n → f j < n) → ∃ p q, p < q ∧ q ≤ n ∧ f p = f q
  | 0, f, h => absurd (h 0 (Nat.le_refl 0)) (by omega)
  | n + 1, f, h => by
    by_cases h1 : ∃ p, p < n + 1 ∧ f p = f (n + 1)
    · obtain ⟨p, hp, e⟩ := h1
      exact ⟨p, n + 1, hp, Nat.le_refl _, e⟩
    · obtain ⟨p, q, hpq, hq, e⟩ := php n (fun j => if f j = n then f (n + 1) else f j) (fun j hj => by
        have h2 := h j (by omega)
        have h3 := h (n + 1) (Nat.le_refl _)
        have h4 : ¬ f j = f (n + 1) := fun e => h1 ⟨j, by omega, e⟩
        split <;> omega)
      have h3 : ¬ f p = f (n + 1) := fun e => h1 ⟨p, by omega, e⟩
      have h4 : ¬ f q = f (n + 1) := fun e => h1 ⟨q, by omega, e⟩
      refine ⟨p, q, hpq, by omega, ?_⟩
      split at e <;> split at e <;> omega
theorem itr_add (me : Nat → Nat) (i : Nat) : ∀ a b, itr me (a + b) i = itr me a (itr me b i)
  | 0, b => by rw [Nat.zero_add]; rfl
  | a + 1, b => by
    rw [show a + 1 + b = (a + b) + 1 by omega]
    show me (itr me (a + b) i) = me (itr me a (itr me b i))
    rw [itr_add me i a b]
theorem itr_s (me : Nat → Nat) (k i : Nat) : itr me k (me i) = itr me (k + 1) i := (itr_add me i k 1).symm
theorem itr_cyc {me : Nat → Nat} {c o : Nat} (h : itr me c o = o) : ∀ m, itr me (m * c) o = o
  | 0 => by rw [Nat.zero_mul]; rfl
  | m + 1 => by rw [Nat.succ_mul, itr_add, h, itr_cyc h m]
theorem rch {me : Nat → Nat} {n k o : Nat} (hme : ∀ i, i < n → me i < n) (hk : k < n) : ∀ j, itr me j k = o → ∃ i, i < n ∧ itr me i k = o := by
  intro j
  induction j using Nat.strongRecOn with
  | _ j ih =>
    intro h
    rcases Nat.lt_or_ge j n with h1 | h1
    · exact ⟨j, h1, h⟩
    · obtain ⟨p, q, hpq, hq, e⟩ := php n (fun t => itr me t k) (fun t _ => itr_lt hme hk t)
      refine ih (j - q + p) (by omega) ?_
      rw [itr_add, show itr me p k = itr me q k from e, ← itr_add, show j - q + q = j by omega]
      exact h
theorem fsK_7 {P : Nat → Bool} {n : Nat} (hn : n ≤ 7) (h : ∀ j, P j = true → ∃ i, i < n ∧ P i = true) : fsK P 7 = fsK P n := by
  cases h1 : fsK P n with
  | some o => exact fsK_up h1 hn
  | none =>
    cases h2 : fsK P 7 with
    | none => rfl
    | some o =>
      obtain ⟨i, hi, hp⟩ := h o (fsK_lt h2).2
      exact absurd hp (fsK_no h1 i hi)
def wyK (me : Nat → Nat) (k o : Nat) : Option Nat := fsK (fun j => decide (itr me j k = o)) 7
theorem wyK_n {me : Nat → Nat} {n k o : Nat} (hn : n ≤ 6) (hme : ∀ i, i < n → me i < n) (hk : k < n) : wyK me k o = fsK (fun j => decide (itr me j k = o)) n :=
  fsK_7 (by omega) (fun j hj => by
    obtain ⟨i, hi, e⟩ := rch hme hk j (of_decide_eq_true hj)
    exact ⟨i, hi, decide_eq_true e⟩)
theorem wyK_some {me : Nat → Nat} {n k o : Nat} (hn : n ≤ 6) (hme : ∀ i, i < n → me i < n) (hk : k < n) : (∃ j, itr me j k = o) ↔ ¬ wyK me k o = none := by
  constructor
  · rintro ⟨j, hj⟩ h
    rw [wyK_n hn hme hk] at h
    obtain ⟨i, hi, e⟩ := rch hme hk j hj
    exact fsK_no h i hi (decide_eq_true e)
  · intro h
    cases h1 : wyK me k o with
    | none => exact absurd h1 h
    | some j => exact ⟨j, of_decide_eq_true (fsK_lt h1).2⟩
theorem onR_wy {me : Nat → Nat} {n i : Nat} (hn : n ≤ 6) (hme : ∀ i, i < n → me i < n) (hi : i < n) : onR n me i ↔ ¬ wyK me (me i) i = none := by
  rw [← wyK_some hn hme (hme i hi)]
  constructor
  · rintro ⟨k, hk, h⟩; exact ⟨k, by rw [itr_s]; exact h⟩
  · rintro ⟨j, hj⟩
    obtain ⟨k, hk, e⟩ := rch hme (hme i hi) j hj
    exact ⟨k, hk, by rw [← itr_s]; exact e⟩
theorem tail_ex {me : Nat → Nat} {n k : Nat} (hme : ∀ i, i < n → me i < n) (hk : k < n) : ∃ o, fsK (fun j => onB n me (itr me j k)) n = some o := by
  cases h : fsK (fun j => onB n me (itr me j k)) n with
  | some o => exact ⟨o, rfl⟩
  | none =>
    obtain ⟨p, q, hpq, hq, e⟩ := php n (fun t => itr me t k) (fun t _ => itr_lt hme hk t)
    refine absurd ?_ (fsK_no h p (by omega))
    refine onB_iff.mpr ⟨q - p - 1, by omega, ?_⟩
    rw [← itr_add, show q - p - 1 + 1 + p = q by omega]
    exact e.symm
theorem lwK_ge {me : Nat → Nat} {i b : Nat} : ∀ n, (∀ j, j ≤ n → b ≤ itr me j i) → b ≤ lwK me i n
  | 0, h => h 0 (Nat.le_refl 0)
  | n + 1, h => by
    have h1 := lwK_ge n (fun j hj => h j (by omega))
    have h2 := h (n + 1) (Nat.le_refl _)
    show b ≤ min (lwK me i n) (itr me (n + 1) i)
    omega
theorem lwK_it {me : Nat → Nat} {i : Nat} : ∀ n j, j ≤ n → lwK me i n ≤ itr me j i
  | 0, j, h => by have : j = 0 := by omega
                  subst this; exact Nat.le_refl _
  | n + 1, j, h => by
    show min (lwK me i n) (itr me (n + 1) i) ≤ _
    rcases Nat.lt_or_ge n j with h1 | h1
    · have : j = n + 1 := by omega
      subst this; omega
    · have := lwK_it (me := me) (i := i) n j h1
      omega
theorem ring_least {me : Nat → Nat} {n i : Nat} (hn : n ≤ 6) (hme : ∀ i, i < n → me i < n) (hi : i < n) (hr : onR n me i) : lwK me i n = i ↔ ∀ o, o < i → ¬ (onR n me o ∧ ¬ wyK me o i = none) := by
  constructor
  · rintro h o ho ⟨⟨c, hc, e⟩, hw⟩
    obtain ⟨a, ha⟩ := (wyK_some hn hme (Nat.lt_trans ho hi)).mpr hw
    have h1 : itr me (a * (c + 1) - a) i = o := by
      rw [← ha, ← itr_add, Nat.sub_add_cancel (Nat.le_mul_of_pos_right _ (by omega)), itr_cyc e]
    obtain ⟨j, hj, e2⟩ := rch hme hi _ h1
    have := lwK_it (me := me) (i := i) n j (by omega)
    omega
  · intro h
    refine Nat.le_antisymm (lwK_le me i n) (lwK_ge n (fun j hj => ?_))
    rcases Nat.lt_or_ge (itr me j i) i with h1 | h1
    · refine absurd ⟨?_, ?_⟩ (h _ h1)
      · obtain ⟨c, hc, e⟩ := hr
        refine ⟨c, hc, ?_⟩
        rw [← itr_add, Nat.add_comm, itr_add, e]
      · refine (wyK_some hn hme (Nat.lt_trans h1 hi)).mp ?_
        obtain ⟨c, hc, e⟩ := hr
        exact ⟨j * (c + 1) - j, by rw [← itr_add, Nat.sub_add_cancel (Nat.le_mul_of_pos_right _ (by omega)), itr_cyc e]⟩
    · exact h1
