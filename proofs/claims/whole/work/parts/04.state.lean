/-! WHAT A TOWN IS: its cells t .. t+8 hold n streets, the year y, who lazes z and who left l (6 or more: nobody), and τ: 0 kind, 1 mud, 2 wear, 3 hands, 4 pence, 5 mends, 6 mended -/
def isT (t : Nat) : Prop := t = 1 ∨ t = 10 ∨ t = 19 ∨ t = 28
theorem shT {t : Nat} (h : isT t) : shp t = .inr (1, twF t) := by rcases h with rfl | rfl | rfl | rfl <;> rfl
theorem loT {t : Nat} (h : isT t) : t < NO := by rcases h with rfl | rfl | rfl | rfl <;> decide
theorem shTa {t : Nat} (h : isT t) (k : Nat) (h1 : 1 ≤ k) (h8 : k ≤ 8) : shp (t + k) = .inl (false, 6) := by
  have hk : k = 1 ∨ k = 2 ∨ k = 3 ∨ k = 4 ∨ k = 5 ∨ k = 6 ∨ k = 7 ∨ k = 8 := by omega
  rcases h with rfl | rfl | rfl | rfl <;> rcases hk with rfl | rfl | rfl | rfl | rfl | rfl | rfl | rfl <;> rfl
theorem loTa {t : Nat} (h : isT t) (k : Nat) (h8 : k ≤ 8) : t + k < NO := by
  unfold NO; rcases h with rfl | rfl | rfl | rfl <;> omega
theorem inc1 (i : Nat) : nI i + Int32.ofInt 1 = nI (i + 1) := by
  show nI i + 1 = _
  exact nI_1 i
theorem minN {a b : Nat} (ha : a < 2 ^ 31) (hb : b < 2 ^ 31) : (if nI b < nI a then nI b else nI a) = nI (min a b) := by
  by_cases h : b < a
  · rw [if_pos (nI_lt h ha), Nat.min_eq_right (by omega)]
  · rw [if_neg (nI_nlt (by omega) (by omega)), Nat.min_eq_left (by omega)]
theorem maxN {a b : Nat} (ha : a < 2 ^ 31) (hb : b < 2 ^ 31) : (if nI a < nI b then nI b else nI a) = nI (max a b) := by
  by_cases h : a < b
  · rw [if_pos (nI_lt h hb), Nat.max_eq_right (by omega)]
  · rw [if_neg (nI_nlt (by omega) (by omega)), Nat.max_eq_left (by omega)]
def sN (v : Int32) (n : Nat) : Prop := ∃ k : Nat, k < n ∧ v = nI k
theorem sN_neg {v : Int32} {n : Nat} (hn : n ≤ 6) (h : v < 0) : ¬ sN v n := by
  rintro ⟨k, hk, rfl⟩
  exact nI_pos (by omega) h
theorem sN_ge {v : Int32} {n : Nat} (hn : n ≤ 6) (h : nI n ≤ v) : ¬ sN v n := by
  rintro ⟨k, hk, rfl⟩
  exact nI_ge hk (by omega) h
theorem sN_of {v : Int32} {n : Nat} (hn : n ≤ 6) (h0 : ¬ v < 0) (h : ¬ nI n ≤ v) : sN v n := by
  obtain ⟨j, hj, rfl⟩ := nI_of h0
  refine ⟨j, ?_, rfl⟩
  rcases Nat.lt_or_ge j n with z | z
  · exact z
  · exact absurd (nI_le z hj) h
theorem sN_nI {k n : Nat} (hn : n ≤ 6) (hk : k < 2 ^ 31) : sN (nI k) n ↔ k < n := by
  constructor
  · rintro ⟨j, hj, e⟩
    have := (nI_eq hk (by omega)).mp e
    omega
  · intro h; exact ⟨k, h, rfl⟩
def nz (z : Nat) : Int32 := if z < 6 then nI z else -1
theorem nz_eq {i z : Nat} (hi : i < 6) : nI i = nz z ↔ i = z := by
  unfold nz
  by_cases hz : z < 6
  · rw [if_pos hz]; exact nI_eq (by omega) (by omega)
  · rw [if_neg hz]
    constructor
    · intro e
      exact absurd (show nI i < 0 by rw [e]; decide) (nI_pos (by omega))
    · intro e; omega
def WFt (n : Nat) (τ : Nat → Nat → Nat) : Prop := ∀ i, i < n → τ 0 i ≤ 5 ∧ τ 1 i ≤ 9 ∧ τ 2 i ≤ 3 ∧ τ 3 i ≤ 4 ∧ τ 4 i ≤ 99 ∧ τ 5 i < n ∧ τ 6 i ≤ 60
def TA (σ : Sg) (t n y z l : Nat) (τ : Nat → Nat → Nat) : Prop :=
  n ≤ 6 ∧ y < 2 ^ 30 ∧ σ t 8 = nI n ∧ σ t 9 = nI y ∧ σ t 10 = nz z ∧ σ t 11 = nz l ∧ (∀ f, f < 7 → ∀ i, i < n → σ (t + (f + 1)) i = nI (τ f i)) ∧ WFt n τ
section TAs
variable {σ : Sg} {t n y z l : Nat} {τ : Nat → Nat → Nat}
theorem TA.n6 (h : TA σ t n y z l τ) : n ≤ 6 := h.1
theorem TA.yb (h : TA σ t n y z l τ) : y < 2 ^ 30 := h.2.1
theorem TA.n8 (h : TA σ t n y z l τ) : σ t 8 = nI n := h.2.2.1
theorem TA.n9 (h : TA σ t n y z l τ) : σ t 9 = nI y := h.2.2.2.1
theorem TA.n10 (h : TA σ t n y z l τ) : σ t 10 = nz z := h.2.2.2.2.1
theorem TA.n11 (h : TA σ t n y z l τ) : σ t 11 = nz l := h.2.2.2.2.2.1
theorem TA.a (h : TA σ t n y z l τ) (f : Nat) (hf : f < 7) {i : Nat} (hi : i < n) : σ (t + (f + 1)) i = nI (τ f i) := h.2.2.2.2.2.2.1 f hf i hi
theorem TA.w (h : TA σ t n y z l τ) : WFt n τ := h.2.2.2.2.2.2.2
end TAs
/-- downwards to a bound -/
theorem down {P : Nat → Prop} (n : Nat) (h : ∀ j, j ≤ n → (j < n → P (j + 1)) → P j) : ∀ j, j ≤ n → P j := by
  have key : ∀ k j, j + k = n → P j := by
    intro k
    induction k with
    | zero => intro j hj; exact h j (by omega) (fun z => absurd z (by omega))
    | succ k ih => intro j hj; exact h j (by omega) (fun _ => ih (j + 1) (by omega))
  intro j hj
  exact key (n - j) j (by omega)
/-! the plain words of the document, over τ -/
def fedK (me : Nat → Nat) (i : Nat) : Nat → Nat
  | 0 => 0
  | j + 1 => if me j = i then fedK me i j + 1 else fedK me i j
def sumK (g : Nat → Nat) : Nat → Nat
  | 0 => 0
  | j + 1 => sumK g j + g j
theorem fedK_le (me : Nat → Nat) (i : Nat) : ∀ j, fedK me i j ≤ j
  | 0 => Nat.le_refl 0
  | j + 1 => by
    have := fedK_le me i j
    unfold fedK; split <;> omega
theorem sumK_le {g : Nat → Nat} {b n : Nat} (h : ∀ i, i < n → g i ≤ b) : ∀ j, j ≤ n → sumK g j ≤ b * j
  | 0, _ => Nat.le_refl 0
  | j + 1, hj => by
    have h1 := sumK_le h j (by omega)
    have h2 := h j (by omega)
    show sumK g j + g j ≤ b * (j + 1)
    rw [Nat.mul_succ]; omega
def trustM (τ : Nat → Nat → Nat) (i : Nat) : Nat := min (τ 3 i) (τ 6 i + 1)
def workM (y z l : Nat) (τ : Nat → Nat → Nat) (i mt : Nat) : Nat :=
  if i = z ∨ i = l then 0
  else if τ 0 i = 1 then (if y % 2 = 0 then τ 3 i else 0)
  else if τ 0 i = 2 then trustM τ i
  else if τ 0 i = 3 then (if 0 < τ 4 i then τ 3 i + 1 else 0)
  else if τ 0 i = 4 then 2 * τ 3 i
  else if τ 0 i = 5 then (if 6 ≤ mt then τ 3 i else trustM τ i)
  else τ 3 i
theorem workM_le {y z l n : Nat} {τ : Nat → Nat → Nat} {i mt : Nat} (h : WFt n τ) (hi : i < n) : workM y z l τ i mt ≤ 8 := by
  obtain ⟨-, -, -, h3, -, -, -⟩ := h i hi
  unfold workM trustM
  repeat' split
  all_goals omega
def itr (me : Nat → Nat) : Nat → Nat → Nat
  | 0, i => i
  | k + 1, i => me (itr me k i)
theorem itr_lt {me : Nat → Nat} {n : Nat} (h : ∀ i, i < n → me i < n) {i : Nat} (hi : i < n) : ∀ k, itr me k i < n
  | 0 => hi
  | k + 1 => h _ (itr_lt h hi k)
def onR (n : Nat) (me : Nat → Nat) (i : Nat) : Prop := ∃ k, k < n ∧ itr me (k + 1) i = i
def lwK (me : Nat → Nat) (i : Nat) : Nat → Nat
  | 0 => i
  | k + 1 => min (lwK me i k) (itr me (k + 1) i)
def mxK (g : Nat → Nat) : Nat → Nat
  | 0 => 0
  | j + 1 => if g (mxK g j) < g j then j else mxK g j
theorem mxK_lt {g : Nat → Nat} : ∀ {j : Nat}, 0 < j → mxK g j < j
  | 1, _ => by unfold mxK; split <;> simp [mxK]
  | j + 2, _ => by
    have := @mxK_lt g (j + 1) (by omega)
    unfold mxK; split <;> omega
def alike (n : Nat) (τ υ : Nat → Nat → Nat) : Prop := ∀ i, i < n → τ 1 i = υ 1 i ∧ τ 6 i = υ 6 i
theorem nI_m1 {k : Nat} (hk : k < 2 ^ 31) : ¬ nI k = -1 := by
  intro e
  exact nI_pos hk (by rw [e]; decide)
