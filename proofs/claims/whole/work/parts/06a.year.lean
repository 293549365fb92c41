/-! a year, in plain words: and what a write does to a town -/
theorem w2_rd {σ : Sg} {o k o1 k1 : Nat} {x : Int32} : w2 σ o k x o1 k1 = if o1 = o ∧ k1 = k then x else σ o1 k1 := by
  unfold w2 so upd
  by_cases h : o1 = o
  · subst h; by_cases h2 : k1 = k <;> simp [h2]
  · simp [h]
def upN (g : Nat → Nat) (k v : Nat) : Nat → Nat := fun j => if j = k then v else g j
def setF (τ : Nat → Nat → Nat) (f : Nat) (g : Nat → Nat) : Nat → Nat → Nat := fun h => if h = f then g else τ h
theorem setF_at {τ : Nat → Nat → Nat} {f : Nat} {g : Nat → Nat} : setF τ f g f = g := by simp [setF]
theorem setF_ne {τ : Nat → Nat → Nat} {f h : Nat} {g : Nat → Nat} (e : h ≠ f) : setF τ f g h = τ h := by simp [setF, e]
/-- the other cells stay -/
def Fr (t : Nat) (σ σ1 : Sg) : Prop := ∀ o, (o < t ∨ t + 9 ≤ o) → σ1 o = σ o
theorem Fr.rf {t : Nat} {σ : Sg} : Fr t σ σ := fun _ _ => rfl
theorem Fr.w {t o k : Nat} {σ σ1 : Sg} {x : Int32} (h : Fr t σ σ1) (h1 : t ≤ o) (h2 : o < t + 9) : Fr t σ (w2 σ1 o k x) := fun q hq => by
  rw [w2_ne (by omega)]; exact h q hq
theorem Fr.tr {t : Nat} {σ σ1 σ2 : Sg} (h : Fr t σ σ1) (h2 : Fr t σ1 σ2) : Fr t σ σ2 := fun q hq => (h2 q hq).trans (h q hq)
def okF (n f v : Nat) : Prop := (f = 0 → v ≤ 5) ∧ (f = 1 → v ≤ 9) ∧ (f = 2 → v ≤ 3) ∧ (f = 3 → v ≤ 4) ∧ (f = 4 → v ≤ 99) ∧ (f = 5 → v < n) ∧ (f = 6 → v ≤ 60)
section TW
variable {σ : Sg} {t n y z l : Nat} {τ : Nat → Nat → Nat}
theorem WFt.ok (h : WFt n τ) {i : Nat} (hi : i < n) (f : Nat) : okF n f (τ f i) := by
  have h9 := h i hi
  refine ⟨?_, ?_, ?_, ?_, ?_, ?_, ?_⟩ <;> (rintro rfl; omega)
theorem WFt.of (h : ∀ f, f < 7 → ∀ i, i < n → okF n f (τ f i)) : WFt n τ := by
  intro i hi
  exact ⟨(h 0 (by decide) i hi).1 rfl, (h 1 (by decide) i hi).2.1 rfl, (h 2 (by decide) i hi).2.2.1 rfl, (h 3 (by decide) i hi).2.2.2.1 rfl, (h 4 (by decide) i hi).2.2.2.2.1 rfl, (h 5 (by decide) i hi).2.2.2.2.2.1 rfl, (h 6 (by decide) i hi).2.2.2.2.2.2 rfl⟩
theorem TA.cg {υ : Nat → Nat → Nat} (h : TA σ t n y z l τ) (he : ∀ f, f < 7 → ∀ i, i < n → τ f i = υ f i) : TA σ t n y z l υ := by
  refine ⟨h.1, h.2.1, h.2.2.1, h.2.2.2.1, h.2.2.2.2.1, h.2.2.2.2.2.1, fun f hf i hi => ?_, WFt.of fun f hf i hi => ?_⟩
  · rw [← he f hf i hi]; exact h.a f hf hi
  · rw [← he f hf i hi]; exact h.w.ok hi f
theorem TA.fr {σ1 : Sg} (h : TA σ t n y z l τ) (hf : ∀ o, t ≤ o → o < t + 8 → σ1 o = σ o) : TA σ1 t n y z l τ := by
  have e := hf t (by omega) (by omega)
  refine ⟨h.1, h.2.1, by rw [e]; exact h.n8, by rw [e]; exact h.n9, by rw [e]; exact h.n10, by rw [e]; exact h.n11, fun f hf7 i hi => ?_, h.w⟩
  rw [hf (t + (f + 1)) (by omega) (by omega)]
  exact h.a f hf7 hi
/-- one place of one row becomes another -/
theorem TA.wr {f k v : Nat} (h : TA σ t n y z l τ) (hf : f < 7) (hk : k < n) (hv : okF n f v) : TA (w2 σ (t + (f + 1)) k (nI v)) t n y z l (setF τ f (upN (τ f) k v)) := by
  have e : w2 σ (t + (f + 1)) k (nI v) t = σ t := w2_ne (by omega)
  refine ⟨h.1, h.2.1, by rw [e]; exact h.n8, by rw [e]; exact h.n9, by rw [e]; exact h.n10, by rw [e]; exact h.n11, fun g hg i hi => ?_, WFt.of fun g hg i hi => ?_⟩
  · rw [w2_rd]
    by_cases hgf : g = f
    · subst hgf
      rw [setF_at]; unfold upN
      by_cases hik : i = k
      · rw [if_pos ⟨rfl, hik⟩, if_pos hik]
      · rw [if_neg (fun q => hik q.2), if_neg hik]; exact h.a g hg hi
    · rw [if_neg (fun q => hgf (by omega)), setF_ne hgf]; exact h.a g hg hi
  · by_cases hgf : g = f
    · subst hgf
      rw [setF_at]; unfold upN
      by_cases hik : i = k
      · rw [if_pos hik]; exact hv
      · rw [if_neg hik]; exact h.w.ok hi g
    · rw [setF_ne hgf]; exact h.w.ok hi g
/-- a place that no street has -/
theorem TA.wo {o k : Nat} {x : Int32} (h : TA σ t n y z l τ) (ho : (t ≤ o ∧ o < t + 8) → (t < o ∧ n ≤ k)) : TA (w2 σ o k x) t n y z l τ := by
  have e : ∀ j, w2 σ o k x t j = σ t j := fun j => by
    rw [w2_rd, if_neg (fun q => by have := ho ⟨by omega, by omega⟩; omega)]
  refine ⟨h.1, h.2.1, by rw [e]; exact h.n8, by rw [e]; exact h.n9, by rw [e]; exact h.n10, by rw [e]; exact h.n11, fun g hg i hi => ?_, h.w⟩
  rw [w2_rd, if_neg (fun q => by have := ho ⟨by omega, by omega⟩; omega)]
  exact h.a g hg hi
theorem TA.wy {y2 : Nat} (h : TA σ t n y z l τ) (hy : y2 < 2 ^ 30) : TA (w2 σ t 9 (nI y2)) t n y2 z l τ := by
  refine ⟨h.1, hy, ?_, ?_, ?_, ?_, fun g hg i hi => ?_, h.w⟩
  · rw [w2_nk (by decide)]; exact h.n8
  · rw [w2_at]
  · rw [w2_nk (by decide)]; exact h.n10
  · rw [w2_nk (by decide)]; exact h.n11
  · rw [w2_ne (by omega)]; exact h.a g hg hi
theorem TA.wz {z2 : Nat} (h : TA σ t n y z l τ) : TA (w2 σ t 10 (nz z2)) t n y z2 l τ := by
  refine ⟨h.1, h.2.1, ?_, ?_, ?_, ?_, fun g hg i hi => ?_, h.w⟩
  · rw [w2_nk (by decide)]; exact h.n8
  · rw [w2_nk (by decide)]; exact h.n9
  · rw [w2_at]
  · rw [w2_nk (by decide)]; exact h.n11
  · rw [w2_ne (by omega)]; exact h.a g hg hi
theorem TA.wl {l2 : Nat} (h : TA σ t n y z l τ) : TA (w2 σ t 11 (nz l2)) t n y z l2 τ := by
  refine ⟨h.1, h.2.1, ?_, ?_, ?_, ?_, fun g hg i hi => ?_, h.w⟩
  · rw [w2_nk (by decide)]; exact h.n8
  · rw [w2_nk (by decide)]; exact h.n9
  · rw [w2_nk (by decide)]; exact h.n10
  · rw [w2_at]
  · rw [w2_ne (by omega)]; exact h.a g hg hi
end TW
theorem nz_in {k : Nat} (h : k < 6) : nz k = nI k := by unfold nz; rw [if_pos h]
/-! bits of at most six -/
def bsK (p : Nat → Bool) : Nat → Nat
  | 0 => 0
  | j + 1 => if p j = true then bsK p j + 2 ^ j else bsK p j
theorem bsK_lt (p : Nat → Bool) : ∀ j, bsK p j < 2 ^ j
  | 0 => by simp [bsK]
  | j + 1 => by
    have := bsK_lt p j
    unfold bsK; rw [Nat.pow_succ]; split <;> omega
theorem bsK_bit {p : Nat → Bool} {i : Nat} : ∀ {n : Nat}, i < n → bsK p n / 2 ^ i % 2 = if p i = true then 1 else 0
  | 0, h => absurd h (by omega)
  | n + 1, h => by
    have hlt := bsK_lt p n
    rcases Nat.lt_or_ge i n with h1 | h1
    · have ih := bsK_bit (p := p) h1
      unfold bsK
      by_cases hp : p n = true
      · rw [if_pos hp]
        obtain ⟨d, rfl⟩ : ∃ d, n = i + 1 + d := ⟨n - i - 1, by omega⟩
        have e : bsK p (i + 1 + d) + 2 ^ (i + 1 + d) = bsK p (i + 1 + d) + 2 ^ i * (2 * 2 ^ d) := by
          rw [show 2 ^ i * (2 * 2 ^ d) = 2 ^ (i + 1 + d) by rw [← Nat.pow_succ', ← Nat.pow_add]; congr 1; omega]
        rw [e, Nat.add_mul_div_left _ _ (Nat.two_pow_pos i), Nat.add_mul_mod_self_left]
        exact ih
      · rw [if_neg hp]; exact ih
    · have : i = n := by omega
      subst this
      unfold bsK
      by_cases hp : p i = true
      · rw [if_pos hp, if_pos hp]
        have e : bsK p i + 2 ^ i = bsK p i + 2 ^ i * 1 := by omega
        rw [e, Nat.add_mul_div_left _ _ (Nat.two_pow_pos i), Nat.div_eq_of_lt hlt]
      · rw [if_neg hp, if_neg hp, Nat.div_eq_of_lt hlt]
theorem bsK_cg {p q : Nat → Bool} : ∀ {n : Nat}, (∀ i, i < n → p i = q i) → bsK p n = bsK q n
  | 0, _ => rfl
  | n + 1, h => by
    unfold bsK
    rw [bsK_cg (n := n) (fun i hi => h i (by omega)), h n (by omega)]
theorem shl1 {i : Nat} (h : i < 6) : nI 1 <<< (nI i &&& 31) = nI (2 ^ i) := by
  have : i = 0 ∨ i = 1 ∨ i = 2 ∨ i = 3 ∨ i = 4 ∨ i = 5 := by omega
  rcases this with rfl | rfl | rfl | rfl | rfl | rfl <;> decide +kernel
theorem ior_all : ∀ j, j < 6 → ∀ a, a < 2 ^ j → nI a ||| nI (2 ^ j) = nI (a + 2 ^ j) := by decide +kernel
theorem shr_all : ∀ i, i < 6 → ∀ a, a < 64 → (nI a >>> (nI i &&& 31)) &&& nI 1 = nI (a / 2 ^ i % 2) := by decide +kernel
theorem ior0_all : ∀ a, a < 64 → nI a ||| nI 0 = nI a := by decide +kernel
/-- payments -/
def fstM (me : Nat → Nat) (l k : Nat) : Nat → Option Nat
  | 0 => none
  | j + 1 => match fstM me l k j with
    | some o => some o
    | none => if me j = k ∧ j ≠ l then some j else none
theorem fstM_up {me : Nat → Nat} {l k o a : Nat} (h : fstM me l k a = some o) : ∀ {b : Nat}, a ≤ b → fstM me l k b = some o
  | 0, hb => by have : a = 0 := by omega
                subst this; exact h
  | b + 1, hb => by
    rcases Nat.lt_or_ge b a with h1 | h1
    · have : a = b + 1 := by omega
      subst this; exact h
    · unfold fstM; rw [fstM_up h h1]
theorem fstM_lt {me : Nat → Nat} {l k o : Nat} : ∀ {a : Nat}, fstM me l k a = some o → o < a
  | 0, h => by cases h
  | a + 1, h => by
    unfold fstM at h
    cases h1 : fstM me l k a with
    | some q =>
      rw [h1] at h
      have h2 : q = o := by simpa using h
      subst h2
      have := fstM_lt h1
      omega
    | none =>
      rw [h1] at h
      by_cases hc : me a = k ∧ a ≠ l
      · simp [hc] at h; omega
      · simp [hc] at h
def pay1 (p : Nat → Nat) (k o : Nat) : Nat → Nat := upN (upN p k (p k - 1)) o (min 99 (upN p k (p k - 1) o + 1))
def payOne (n l : Nat) (me p : Nat → Nat) (k : Nat) : Nat → Nat := match fstM me l k n with
  | none => p
  | some o => pay1 p k o
def payK (P : Nat → Bool) (n l : Nat) (me p : Nat → Nat) : Nat → Nat → Nat
  | 0 => p
  | j + 1 => if P j = true then payOne n l me (payK P n l me p j) j else payK P n l me p j
theorem payOne_le {n l : Nat} {me p : Nat → Nat} {k : Nat} (h : ∀ i, i < n → p i ≤ 99) : ∀ i, i < n → payOne n l me p k i ≤ 99 := by
  intro i hi
  have h1 := h i hi
  unfold payOne
  cases fstM me l k n with
  | none => exact h1
  | some o =>
    show pay1 p k o i ≤ 99
    unfold pay1 upN
    by_cases e : i = o
    · rw [if_pos e]; omega
    · rw [if_neg e]
      by_cases e2 : i = k
      · subst e2; rw [if_pos rfl]; omega
      · rw [if_neg e2]; exact h1
theorem payOne_ge {n l : Nat} {me p : Nat → Nat} {k : Nat} (h : ∀ i, i < n → p i ≤ 99) : ∀ i, i < n → i ≠ k → p i ≤ payOne n l me p k i := by
  intro i hi hk
  have h1 := h i hi
  unfold payOne
  cases fstM me l k n with
  | none => exact Nat.le_refl _
  | some o =>
    show p i ≤ pay1 p k o i
    unfold pay1 upN
    by_cases e : i = o
    · subst e; rw [if_pos rfl, if_neg hk]; omega
    · rw [if_neg e, if_neg hk]; omega
theorem payK_le {P : Nat → Bool} {n l : Nat} {me p : Nat → Nat} (h : ∀ i, i < n → p i ≤ 99) : ∀ j i, i < n → payK P n l me p j i ≤ 99
  | 0, i, hi => h i hi
  | j + 1, i, hi => by
    unfold payK; split
    · exact payOne_le (payK_le h j) i hi
    · exact payK_le h j i hi
theorem payK_ge {P : Nat → Bool} {n l : Nat} {me p : Nat → Nat} (h : ∀ i, i < n → p i ≤ 99) : ∀ j i, i < n → j ≤ i → p i ≤ payK P n l me p j i
  | 0, i, hi, _ => Nat.le_refl _
  | j + 1, i, hi, hj => by
    have ih := payK_ge (P := P) (l := l) (me := me) h j i hi (by omega)
    unfold payK; split
    · exact Nat.le_trans ih (payOne_ge (payK_le h j) i hi (by omega))
    · exact ih
/-- the work of a year -/
def m1 (τ : Nat → Nat → Nat) (i : Nat) : Nat := min 9 (τ 1 i + τ 2 i)
def wkM (y z l : Nat) (τ : Nat → Nat → Nat) (j : Nat) : Nat := workM y z l τ j (m1 τ (τ 5 j))
def accW (me w : Nat → Nat) : Nat → Nat → Nat
  | 0, _ => 0
  | j + 1, i => if me j = i then accW me w j i + w j else accW me w j i
theorem accW_le {me w : Nat → Nat} {n : Nat} (h : ∀ i, i < n → w i ≤ 8) : ∀ j i, j ≤ n → accW me w j i ≤ 8 * j
  | 0, i, _ => Nat.le_refl 0
  | j + 1, i, hj => by
    have h1 := accW_le (me := me) h j i (by omega)
    have h2 := h j (by omega)
    unfold accW; split <;> omega
def pyr (l : Nat) (τ : Nat → Nat → Nat) (j : Nat) : Bool := decide (τ 0 j = 3 ∧ 0 < τ 4 j ∧ j ≠ l)
def yrM (n y z l : Nat) (τ : Nat → Nat → Nat) : Nat → Nat → Nat := fun f i =>
  if f = 1 then m1 τ i - accW (τ 5) (wkM y z l τ) n i
  else if f = 4 then payK (pyr l τ) n l (τ 5) (τ 4) n i
  else if f = 6 then accW (τ 5) (wkM y z l τ) n i
  else τ f i
def yrsM (n y z l : Nat) (τ : Nat → Nat → Nat) : Nat → Nat → Nat → Nat
  | 0 => τ
  | k + 1 => yrM n (y + k) z l (yrsM n y z l τ k)
theorem wkM_le {y z l n : Nat} {τ : Nat → Nat → Nat} {i : Nat} (h : WFt n τ) (hi : i < n) : wkM y z l τ i ≤ 8 := workM_le h hi
theorem yrM_wf {y z l n : Nat} {τ : Nat → Nat → Nat} (hn : n ≤ 6) (h : WFt n τ) : WFt n (yrM n y z l τ) := by
  intro i hi
  obtain ⟨h0, h1, h2, h3, h4, h5, h6⟩ := h i hi
  have ha := accW_le (me := τ 5) (w := wkM y z l τ) (n := n) (fun j hj => wkM_le h hj) n i (Nat.le_refl n)
  have hp := payK_le (P := pyr l τ) (l := l) (me := τ 5) (p := τ 4) (n := n) (fun j hj => (h j hj).2.2.2.2.1) n i hi
  refine ⟨h0, ?_, h2, h3, hp, h5, ?_⟩
  · show m1 τ i - _ ≤ 9
    unfold m1; omega
  · show accW _ _ n i ≤ 60
    omega
theorem max0 {a b : Nat} (ha : a < 2 ^ 29) (hb : b < 2 ^ 29) : (if nI 0 < nI a - nI b then nI a - nI b else nI 0) = nI (a - b) := by
  rcases Nat.lt_or_ge b a with h | h
  · rw [pk_sub (by omega), if_pos (nI_lt (by omega) (by omega))]
  · have e : a - b = 0 := by omega
    rw [e]
    rcases Nat.lt_or_ge a b with h2 | h2
    · rw [if_neg]
      intro h3
      have h4 := pk_sneg (a := a) (b := b) (by omega) h2
      rw [nI_0] at h3
      have h5 := Int32.lt_iff_toInt_lt.mp h3
      have h6 := Int32.lt_iff_toInt_lt.mp h4
      omega
    · have : a = b := by omega
      subst this
      rw [pk_sub (Nat.le_refl a), Nat.sub_self]
      simp
