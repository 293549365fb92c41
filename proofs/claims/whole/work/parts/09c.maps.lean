/-! all maps by which each street is mended by just one dweller, in their order -/
def swF (a : Nat → Nat) (i j : Nat) : Nat → Nat := upN (upN a i (a j)) j (a i)
def tuK (a : Nat → Nat) : Nat → Option Nat
  | 0 => none
  | k + 1 => if a (k + 1) < a k then tuK a k else some k
def grK (a : Nat → Nat) (t : Nat) : Nat → Nat
  | 0 => 0
  | g + 1 => if t < g + 1 ∧ a (g + 1) < a t then grK a t g else g + 1
def rvK : Nat → (Nat → Nat) → Nat → Nat → Nat → Nat
  | 0, a, _, _ => a
  | f + 1, a, l, h => if l < h then rvK f (swF a l h) (l + 1) (h - 1) else a
def nxF (n : Nat) (a : Nat → Nat) (t : Nat) : Nat → Nat := rvK n (swF a t (grK a t (n - 1))) (t + 1) (n - 1)
def lf (l : List Nat) : Nat → Nat := fun i => l.getD i 0
def pmL (n : Nat) : Nat → List Nat → List (List Nat)
  | 0, pre => [pre]
  | f + 1, pre => (List.range n).flatMap (fun to => if pre.contains to = true then [] else pmL n f (pre ++ [to]))
def PL (n : Nat) : List (List Nat) := pmL n n []
def nextl (n : Nat) (l : List Nat) : Option (List Nat) := (tuK (lf l) (n - 1)).map (fun t => (List.range n).map (nxF n (lf l) t))
def chk (n : Nat) : List (List Nat) → Bool
  | [] => true
  | l :: r => (match r with
    | [] => decide (nextl n l = none)
    | l2 :: _ => decide (nextl n l = some l2)) && chk n r
theorem PL_ok : ∀ n, n ≤ 6 → (chk n (PL n) && (PL n).all (fun l => decide (l.length = n) && l.all (fun x => decide (x < n))) && decide ((PL n).head? = some (List.range n)) && decide ((PL n).length ≤ 720)) = true := by decide +kernel
theorem chk_at {n : Nat} : ∀ {L : List (List Nat)}, chk n L = true → ∀ {i : Nat} {l : List Nat}, L[i]? = some l → nextl n l = L[i + 1]?
  | [], _, i, l, h => by simp at h
  | q :: r, hc, 0, l, h => by
    simp at h; subst h
    unfold chk at hc
    rw [Bool.and_eq_true] at hc
    cases r with
    | nil => simpa using of_decide_eq_true hc.1
    | cons l2 r2 => simpa using of_decide_eq_true hc.1
  | q :: r, hc, i + 1, l, h => by
    unfold chk at hc
    rw [Bool.and_eq_true] at hc
    have := chk_at hc.2 (i := i) (l := l) (by simpa using h)
    simpa using this
theorem PL_chk {n : Nat} (hn : n ≤ 6) {i : Nat} {l : List Nat} (h : (PL n)[i]? = some l) : nextl n l = (PL n)[i + 1]? := by
  have := PL_ok n hn
  simp only [Bool.and_eq_true] at this
  exact chk_at this.1.1.1 h
theorem PL_in {n : Nat} (hn : n ≤ 6) {l : List Nat} (h : l ∈ PL n) : l.length = n ∧ ∀ k, k < n → lf l k < n := by
  have := PL_ok n hn
  simp only [Bool.and_eq_true] at this
  have h1 := List.all_eq_true.mp this.1.1.2 l h
  rw [Bool.and_eq_true] at h1
  have h2 := of_decide_eq_true h1.1
  refine ⟨h2, fun k hk => ?_⟩
  have h3 := List.all_eq_true.mp h1.2 (lf l k) (by
    unfold lf
    rw [List.getD_eq_getElem?_getD, List.getElem?_eq_getElem (by omega)]
    exact List.getElem_mem (by omega))
  exact of_decide_eq_true h3
theorem PL_hd {n : Nat} (hn : n ≤ 6) : (PL n)[0]? = some (List.range n) := by
  have := PL_ok n hn
  simp only [Bool.and_eq_true] at this
  rw [← List.head?_eq_getElem?]
  exact of_decide_eq_true this.1.2
theorem PL_len {n : Nat} (hn : n ≤ 6) : (PL n).length ≤ 720 := by
  have := PL_ok n hn
  simp only [Bool.and_eq_true] at this
  exact of_decide_eq_true this.2
theorem lf_range {n k : Nat} (h : k < n) : lf (List.range n) k = k := by
  unfold lf; rw [List.getD_eq_getElem?_getD, List.getElem?_range h]; rfl
theorem lf_map {n k : Nat} {f : Nat → Nat} (h : k < n) : lf ((List.range n).map f) k = f k := by
  unfold lf; rw [List.getD_eq_getElem?_getD, List.getElem?_map, List.getElem?_range h]; rfl
def bmS (g : List Nat → Nat) (s : Nat × List Nat) (l : List Nat) : Nat × List Nat := if g l < s.1 then (g l, l) else s
def bmG (n y : Nat) (τ : Nat → Nat → Nat) (j : Nat) (l : List Nat) : Nat := sumK (yM n y (setF τ 5 (lf l)) j 1) n
def bmM (n y : Nat) (τ : Nat → Nat → Nat) (j : Nat) : Nat × List Nat := (PL n).foldl (bmS (bmG n y τ j)) (55, [])
def q_best (n y : Nat) (τ : Nat → Nat → Nat) (v w : Int32) : Nat × Int32 := if w = -1 then rfq v 1 30 (nI (bmM n y τ (tn v)).1) else match stN w n with
  | none => (1, 0)
  | some k => rfq v 1 30 (nI (lf (bmM n y τ (tn v)).2 k))
def MA (σ : Sg) (n : Nat) (a : Nat → Nat) : Prop := ∀ k, k < n → σ 39 k = nI (a k) ∧ a k < 100
theorem MA.sw {σ : Sg} {n i j : Nat} {a : Nat → Nat} (h : MA σ n a) (hi : i < n) (hj : j < n) : MA (w2 (w2 σ 39 i (nI (a j))) 39 j (nI (a i))) n (swF a i j) := by
  intro k hk
  rw [w2_rd, w2_rd]
  unfold swF upN
  by_cases h1 : k = j
  · rw [if_pos ⟨rfl, h1⟩, if_pos h1]; exact ⟨rfl, (h i hi).2⟩
  · rw [if_neg (fun q => h1 q.2), if_neg h1]
    by_cases h2 : k = i
    · rw [if_pos ⟨rfl, h2⟩, if_pos h2]; exact ⟨rfl, (h j hj).2⟩
    · rw [if_neg (fun q => h2 q.2), if_neg h2]; exact h k hk
theorem up0 {P : Nat → Prop} (h : ∀ k, (∀ j, k = j + 1 → P j) → P k) : ∀ k, P k := by
  intro k
  induction k with
  | zero => exact h 0 (fun j hj => absurd hj (by omega))
  | succ k ih => exact h (k + 1) (fun j hj => by have : j = k := by omega
                                                 subst this; exact ih)
theorem tuK_lt {a : Nat → Nat} {t : Nat} : ∀ {k : Nat}, tuK a k = some t → t < k
  | 0, h => by cases h
  | k + 1, h => by
    unfold tuK at h
    split at h
    · have := tuK_lt h; omega
    · have := Option.some.inj h; omega
theorem grK_b {a : Nat → Nat} {t : Nat} : ∀ {g : Nat}, t ≤ g → t ≤ grK a t g ∧ grK a t g ≤ g
  | 0, h => ⟨h, Nat.le_refl 0⟩
  | g + 1, h => by
    unfold grK
    split
    · rename_i hc
      have := grK_b (a := a) (t := t) (g := g) (by omega)
      omega
    · omega
theorem swF_lt {a : Nat → Nat} {n i j b : Nat} (h : ∀ k, k < n → a k < b) (hi : i < n) (hj : j < n) : ∀ k, k < n → swF a i j k < b := by
  intro k hk
  unfold swF upN
  split
  · exact h i hi
  · split
    · exact h j hj
    · exact h k hk
theorem dec1 (i : Nat) : nI (i + 1) + Int32.ofInt (-1) = nI i := by
  show nI (i + 1) + (-1) = nI i
  exact pk_m1 i
theorem dec0 : nI 0 + Int32.ofInt (-1) = -1 := by decide +kernel
theorem Fs.so {σ σ1 : Sg} {o : Nat} {f : Nat → Int32} (h : Fs σ σ1) (h1 : 19 ≤ o) (h2 : o < 41) (h3 : o ≠ 37) (h4 : o ≠ 38) : Fs σ (so σ1 o f) := fun q hq => by
  rw [so_ne (by omega)]; exact h q hq
theorem TA.me {σ : Sg} {n y z l : Nat} {τ : Nat → Nat → Nat} {a : Nat → Nat} (h : TA σ 19 n y z l τ) (ha : MA σ n a) (hb : ∀ k, k < n → a k < n) : TA (so σ 25 (fun k => if k < 6 then σ 39 k else σ 25 k)) 19 n y z l (setF τ 5 a) := by
  have hn := h.n6
  refine ⟨h.1, h.2.1, by rw [so_ne (by decide)]; exact h.n8, by rw [so_ne (by decide)]; exact h.n9, by rw [so_ne (by decide)]; exact h.n10, by rw [so_ne (by decide)]; exact h.n11, fun f hf i hi => ?_, WFt.of fun f hf i hi => ?_⟩
  · by_cases h5 : f = 5
    · subst h5
      rw [setF_at]
      show so σ 25 _ 25 i = nI (a i)
      rw [so_at, if_pos (by omega)]; exact (ha i hi).1
    · rw [setF_ne h5, so_ne (by omega)]; exact h.a f hf hi
  · by_cases h5 : f = 5
    · subst h5
      rw [setF_at]
      have := hb i hi
      unfold okF; omega
    · rw [setF_ne h5]; exact h.w.ok hi f
theorem take_one {α : Type} {L : List α} {i : Nat} {q : α} (h : L[i]? = some q) : L.take (i + 1) = L.take i ++ [q] := by
  rw [List.take_succ, h]; rfl
