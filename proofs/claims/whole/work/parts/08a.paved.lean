/-! THE CLASS: what an object of it is, and what it answers, in plain words -/
def tn (v : Int32) : Nat := v.toNatClampNeg
theorem tn_nI {k : Nat} (h : k < 2 ^ 31) : tn (nI k) = k := nI_clamp h
def stN (v : Int32) (n : Nat) : Option Nat := if v < 0 then none else if tn v < n then some (tn v) else none
theorem stN_some {k n : Nat} (hk : k < n) (hn : n ≤ 1000) : stN (nI k) n = some k := by
  unfold stN; rw [if_neg (nI_pos (by omega)), tn_nI (by omega), if_pos hk]
theorem stN_none {v : Int32} {n : Nat} (h : ¬ sN v n) : stN v n = none := by
  unfold stN
  by_cases h0 : v < 0
  · rw [if_pos h0]
  · rw [if_neg h0]
    obtain ⟨j, hj, rfl⟩ := nI_of h0
    rw [tn_nI hj, if_neg (fun h9 => h ⟨j, h9, rfl⟩)]
def rfN (v : Int32) (a c : Nat) : Nat := if v < nI a then 4 else if nI c < v then 6 else 0
theorem rfN_in {j a c : Nat} (h1 : a ≤ j) (h2 : j ≤ c) (hc : c < 2 ^ 20) : rfN (nI j) a c = 0 := by
  unfold rfN; rw [if_neg (nI_nlt h1 (by omega)), if_neg (nI_nlt h2 (by omega))]
def rfq (v : Int32) (a c : Nat) (z : Int32) : Nat × Int32 := if rfN v a c = 0 then (0, z) else (rfN v a c, 0)
theorem rfq_in {j a c : Nat} {z : Int32} (h1 : a ≤ j) (h2 : j ≤ c) (hc : c < 2 ^ 20) : rfq (nI j) a c z = (0, z) := by
  unfold rfq; rw [rfN_in h1 h2 hc, if_pos rfl]
theorem rfq_4 {v : Int32} {a c : Nat} {z : Int32} (h : rfN v a c = 4) : rfq v a c z = (4, 0) := by
  unfold rfq; rw [h, if_neg (by decide)]
theorem rfq_6 {v : Int32} {a c : Nat} {z : Int32} (h : rfN v a c = 6) : rfq v a c z = (6, 0) := by
  unfold rfq; rw [h, if_neg (by decide)]
/-- what is answered, and how the refusals then are -/
def rA (q : Nat × Int32) : Int32 := if q.1 = 0 then q.2 else -(nI q.1)
def rU (rc : Nat → Nat) (q : Nat × Int32) : Nat → Nat := if q.1 = 0 then rc else upN rc q.1 (rc q.1 + 1)
def XR (σ : Sg) (n y : Nat) (τ : Nat → Nat → Nat) (fl n2 y2 : Nat) (τ2 : Nat → Nat → Nat) (m : Nat) (cs : Nat → Nat) (rl : Nat) (ro rc : Nat → Nat) : Prop :=
  (TA σ 1 n y 6 6 τ ∧ y ≤ 999) ∧ (σ 0 10 = nI fl ∧ fl ≤ 1 ∧ (fl = 1 → TA σ 10 n2 y2 6 6 τ2 ∧ y2 ≤ 999)) ∧ TX σ m cs ∧ (σ 0 9 = nI rl ∧ rl ≤ 6 ∧ ∀ i, i < rl → σ 41 i = nI (ro i) ∧ ro i ≤ 9) ∧ ∀ k, 1 ≤ k → k ≤ 6 → σ 42 k = nI (rc k)
def Fx (σ σ1 : Sg) : Prop := ∀ o, 43 ≤ o → σ1 o = σ o
/-- what is only in mind: trial, rival, map, bestOfMaps -/
def Fs (σ σ1 : Sg) : Prop := ∀ o, (o < 19 ∨ o = 37 ∨ o = 38 ∨ 41 ≤ o) → σ1 o = σ o
theorem Fs.rf {σ : Sg} : Fs σ σ := fun _ _ => rfl
theorem Fs.tr {σ σ1 σ2 : Sg} (h : Fs σ σ1) (h2 : Fs σ1 σ2) : Fs σ σ2 := fun o ho => (h2 o ho).trans (h o ho)
theorem Fs.of {t : Nat} {σ σ1 : Sg} (h : Fr t σ σ1) (ht : t = 19 ∨ t = 28) : Fs σ σ1 := fun o ho => h o (by omega)
theorem Fs.x {σ σ1 : Sg} (h : Fs σ σ1) : Fx σ σ1 := fun o ho => h o (by omega)
theorem Fs.w {σ σ1 : Sg} {o k : Nat} {v : Int32} (h : Fs σ σ1) (h1 : 19 ≤ o) (h2 : o < 41) (h3 : o ≠ 37) (h4 : o ≠ 38) : Fs σ (w2 σ1 o k v) := fun q hq => by
  rw [w2_ne (by omega)]; exact h q hq
theorem t1 : isT 1 := Or.inl rfl
theorem t10 : isT 10 := Or.inr (Or.inl rfl)
theorem t19 : isT 19 := Or.inr (Or.inr (Or.inl rfl))
theorem t28 : isT 28 := Or.inr (Or.inr (Or.inr rfl))
theorem TA.ot {σ σ1 : Sg} {t u n y z l : Nat} {τ : Nat → Nat → Nat} (h : TA σ u n y z l τ) (hF : Fr t σ σ1) (ha : t + 9 ≤ u ∨ u + 9 ≤ t) : TA σ1 u n y z l τ := h.fr (fun o h1 h2 => hF o (by omega))
section XRs
variable {σ σ1 : Sg} {n y : Nat} {τ : Nat → Nat → Nat} {fl n2 y2 : Nat} {τ2 : Nat → Nat → Nat} {m : Nat} {cs : Nat → Nat} {rl : Nat} {ro rc : Nat → Nat}
theorem XR.now (h : XR σ n y τ fl n2 y2 τ2 m cs rl ro rc) : TA σ 1 n y 6 6 τ := h.1.1
theorem XR.y9 (h : XR σ n y τ fl n2 y2 τ2 m cs rl ro rc) : y ≤ 999 := h.1.2
theorem XR.tx (h : XR σ n y τ fl n2 y2 τ2 m cs rl ro rc) : TX σ m cs := h.2.2.1
theorem XR.fl0 (h : XR σ n y τ fl n2 y2 τ2 m cs rl ro rc) : σ 0 10 = nI fl := h.2.1.1
theorem XR.rl0 (h : XR σ n y τ fl n2 y2 τ2 m cs rl ro rc) : σ 0 9 = nI rl := h.2.2.2.1.1
theorem XR.rl6 (h : XR σ n y τ fl n2 y2 τ2 m cs rl ro rc) : rl ≤ 6 := h.2.2.2.1.2.1
theorem XR.rw0 (h : XR σ n y τ fl n2 y2 τ2 m cs rl ro rc) {i : Nat} (hi : i < rl) : σ 41 i = nI (ro i) ∧ ro i ≤ 9 := h.2.2.2.1.2.2 i hi
theorem XR.rc0 (h : XR σ n y τ fl n2 y2 τ2 m cs rl ro rc) {k : Nat} (h1 : 1 ≤ k) (h6 : k ≤ 6) : σ 42 k = nI (rc k) := h.2.2.2.2 k h1 h6
theorem XR.fs (h : XR σ n y τ fl n2 y2 τ2 m cs rl ro rc) (hf : Fs σ σ1) : XR σ1 n y τ fl n2 y2 τ2 m cs rl ro rc := by
  obtain ⟨⟨a1, a2⟩, ⟨b1, b2, b3⟩, c, ⟨d1, d2, d3⟩, e⟩ := h
  refine ⟨⟨a1.fr (fun o h1 h2 => hf o (by omega)), a2⟩, ⟨by rw [hf 0 (by decide)]; exact b1, b2, fun h9 => ⟨(b3 h9).1.fr (fun o h1 h2 => hf o (by omega)), (b3 h9).2⟩⟩, ⟨c.1, by rw [hf 37 (by decide)]; exact c.2.1, by rw [hf 38 (by decide)]; exact c.2.2⟩, ⟨by rw [hf 0 (by decide)]; exact d1, d2, by rw [hf 41 (by decide)]; exact d3⟩, by rw [hf 42 (by decide)]; exact e⟩
theorem XR.rf (h : XR σ n y τ fl n2 y2 τ2 m cs rl ro rc) (k : Nat) : XR (w2 σ 42 k (nI (rc k + 1))) n y τ fl n2 y2 τ2 m cs rl ro (upN rc k (rc k + 1)) := by
  obtain ⟨⟨a1, a2⟩, ⟨b1, b2, b3⟩, c, ⟨d1, d2, d3⟩, e⟩ := h
  refine ⟨⟨a1.wo (fun h9 => by omega), a2⟩, ⟨by rw [w2_ne (by decide)]; exact b1, b2, fun h9 => ⟨(b3 h9).1.wo (fun h9 => by omega), (b3 h9).2⟩⟩, ⟨c.1, by rw [w2_ne (by decide)]; exact c.2.1, by rw [w2_ne (by decide)]; exact c.2.2⟩, ⟨by rw [w2_ne (by decide)]; exact d1, d2, by rw [w2_ne (by decide)]; exact d3⟩, fun j h1 h6 => ?_⟩
  rw [w2_rd]; unfold upN
  by_cases hj : j = k
  · rw [if_pos ⟨rfl, hj⟩, if_pos hj]
  · rw [if_neg (fun h9 => hj h9.2), if_neg hj]; exact e j h1 h6
theorem XR.wn {τ' : Nat → Nat → Nat} {n' y' : Nat} (h : XR σ n y τ fl n2 y2 τ2 m cs rl ro rc) (hT : TA σ1 1 n' y' 6 6 τ') (hy : y' ≤ 999) (hF : ∀ o, (o < 1 ∨ (10 ≤ o ∧ o < 19) ∨ o = 37 ∨ o = 38 ∨ 41 ≤ o) → σ1 o = σ o) : XR σ1 n' y' τ' fl n2 y2 τ2 m cs rl ro rc := by
  obtain ⟨⟨a1, a2⟩, ⟨b1, b2, b3⟩, c, ⟨d1, d2, d3⟩, e⟩ := h
  exact ⟨⟨hT, hy⟩, ⟨by rw [hF 0 (by decide)]; exact b1, b2, fun h9 => ⟨(b3 h9).1.fr (fun o h1 h2 => hF o (by omega)), (b3 h9).2⟩⟩, ⟨c.1, by rw [hF 37 (by decide)]; exact c.2.1, by rw [hF 38 (by decide)]; exact c.2.2⟩, ⟨by rw [hF 0 (by decide)]; exact d1, d2, by rw [hF 41 (by decide)]; exact d3⟩, by rw [hF 42 (by decide)]; exact e⟩
/-- the end of a call that only asks -/
def XP (σ : Sg) (n y : Nat) (τ : Nat → Nat → Nat) (fl n2 y2 : Nat) (τ2 : Nat → Nat → Nat) (m : Nat) (cs : Nat → Nat) (rl : Nat) (ro rc : Nat → Nat) (q : Nat × Int32) : Int32 → Sg → Prop := fun r σ1 => r = rA q ∧ XR σ1 n y τ fl n2 y2 τ2 m cs rl ro (rU rc q) ∧ Fx σ σ1
theorem XP.no {q : Nat × Int32} {k : Nat} {v : Int32} (h : XR σ n y τ fl n2 y2 τ2 m cs rl ro rc) (hq : q = (k, 0)) (hk : 0 < k) (hv : v = -(nI k)) : XP σ n y τ fl n2 y2 τ2 m cs rl ro rc q v (w2 σ 42 k (nI (rc k + 1))) := by
  subst hq
  have hk0 : ¬ k = 0 := by omega
  refine ⟨?_, ?_, fun o ho => w2_ne (by omega)⟩
  · show v = if k = 0 then 0 else -(nI k)
    rw [if_neg hk0]; exact hv
  · show XR _ n y τ fl n2 y2 τ2 m cs rl ro (if k = 0 then rc else upN rc k (rc k + 1))
    rw [if_neg hk0]; exact h.rf k
theorem XP.yes {q : Nat × Int32} {v : Int32} (h : XR σ n y τ fl n2 y2 τ2 m cs rl ro rc) (hF : Fs σ σ1) (hq : q = (0, v)) : XP σ n y τ fl n2 y2 τ2 m cs rl ro rc q v σ1 := by
  subst hq
  exact ⟨rfl, h.fs hF, hF.x⟩
end XRs
/-- the first of the numbers below j of which it holds -/
def fsK (P : Nat → Bool) : Nat → Option Nat
  | 0 => none
  | j + 1 => match fsK P j with
    | some o => some o
    | none => if P j = true then some j else none
theorem fsK_up {P : Nat → Bool} {o a : Nat} (h : fsK P a = some o) : ∀ {b : Nat}, a ≤ b → fsK P b = some o
  | 0, hb => by have : a = 0 := by omega
                subst this; exact h
  | b + 1, hb => by
    rcases Nat.lt_or_ge b a with h1 | h1
    · have : a = b + 1 := by omega
      subst this; exact h
    · unfold fsK; rw [fsK_up h h1]
theorem fsK_y {P : Nat → Bool} {j : Nat} (h : fsK P j = none) (hp : P j = true) : fsK P (j + 1) = some j := by
  unfold fsK; rw [h]; simp [hp]
theorem fsK_n {P : Nat → Bool} {j : Nat} (h : fsK P j = none) (hp : ¬ P j = true) : fsK P (j + 1) = none := by
  unfold fsK; rw [h]; simp [hp]
theorem fsK_lt {P : Nat → Bool} {o : Nat} : ∀ {a : Nat}, fsK P a = some o → o < a ∧ P o = true
  | 0, h => by cases h
  | a + 1, h => by
    unfold fsK at h
    cases h1 : fsK P a with
    | some q =>
      rw [h1] at h
      have h2 : q = o := by simpa using h
      subst h2
      have := fsK_lt h1
      exact ⟨by omega, this.2⟩
    | none =>
      rw [h1] at h
      by_cases hc : P a = true
      · simp [hc] at h; subst h; exact ⟨by omega, hc⟩
      · simp [hc] at h
theorem fsK_no {P : Nat → Bool} : ∀ {a : Nat}, fsK P a = none → ∀ i, i < a → ¬ P i = true
  | 0, _, i, hi => absurd hi (by omega)
  | a + 1, h, i, hi => by
    unfold fsK at h
    cases h1 : fsK P a with
    | some q => rw [h1] at h; simp at h
    | none =>
      rw [h1] at h
      by_cases hc : P a = true
      · simp [hc] at h
      · rcases Nat.lt_or_ge i a with h2 | h2
        · exact fsK_no h1 i h2
        · have : i = a := by omega
          subst this; exact hc
def oI (d : Int32) : Option Nat → Int32
  | some k => nI k
  | none => d
def alB (n : Nat) (τ υ : Nat → Nat → Nat) : Bool := (List.range n).all (fun i => decide (τ 1 i = υ 1 i ∧ τ 6 i = υ 6 i))
theorem alB_iff {n : Nat} {τ υ : Nat → Nat → Nat} : alB n τ υ = true ↔ alike n τ υ := by
  unfold alB alike
  rw [List.all_eq_true]
  constructor
  · intro h i hi; exact of_decide_eq_true (h i (List.mem_range.mpr hi))
  · intro h i hi; exact decide_eq_true (h i (List.mem_range.mp hi))
def onB (n : Nat) (me : Nat → Nat) (i : Nat) : Bool := (List.range n).any (fun k => decide (itr me (k + 1) i = i))
theorem onB_iff {n : Nat} {me : Nat → Nat} {i : Nat} : onB n me i = true ↔ onR n me i := by
  unfold onB onR
  rw [List.any_eq_true]
  constructor
  · rintro ⟨k, hk, h⟩; exact ⟨k, List.mem_range.mp hk, of_decide_eq_true h⟩
  · rintro ⟨k, hk, h⟩; exact ⟨k, List.mem_range.mpr hk, decide_eq_true h⟩
def cntK (P : Nat → Bool) : Nat → Nat
  | 0 => 0
  | j + 1 => if P j = true then cntK P j + 1 else cntK P j
/-! the questions -/
def yM (n y : Nat) (τ : Nat → Nat → Nat) (k : Nat) : Nat → Nat → Nat := yrsM n y 6 6 τ k
def q_street (n : Nat) (τ : Nat → Nat → Nat) (v w : Int32) : Nat × Int32 := match stN v n with
  | none => (1, 0)
  | some k => match stN w 7 with
    | some j => (0, nI (τ j k))
    | none => if w = nI 7 then (0, nI (fedK (τ 5) k n)) else (2, 0)
def q_mends (n : Nat) (τ : Nat → Nat → Nat) (v w : Int32) : Nat × Int32 := match stN v n with
  | none => (1, 0)
  | some k => match stN w n with
    | none => (1, 0)
    | some _ => (0, nI (τ 5 k))
def u_mends (n : Nat) (τ : Nat → Nat → Nat) (v w : Int32) : Nat → Nat → Nat := match stN v n with
  | none => τ
  | some k => match stN w n with
    | none => τ
    | some j => setF τ 5 (upN (τ 5) k j)
def q_put (f c n : Nat) (τ : Nat → Nat → Nat) (v w : Int32) : Nat × Int32 := match stN v n with
  | none => (1, 0)
  | some k => rfq w 0 c (nI (τ f k))
def u_put (f c n : Nat) (τ : Nat → Nat → Nat) (v w : Int32) : Nat → Nat → Nat := match stN v n with
  | none => τ
  | some k => if rfN w 0 c = 0 then setF τ f (upN (τ f) k (tn w)) else τ
def q_year (n y : Nat) (τ : Nat → Nat → Nat) : Nat × Int32 := if y = 999 then (6, 0) else (0, nI (sumK (yM n y τ 1 1) n))
def q_mud (n y : Nat) (τ : Nat → Nat → Nat) (v w : Int32) : Nat × Int32 := if v = -1 then rfq w 0 60 (nI (sumK (yM n y τ (tn w) 1) n)) else match stN v n with
  | none => (1, 0)
  | some k => rfq w 0 60 (nI (yM n y τ (tn w) 1 k))
def q_worst (n y : Nat) (τ : Nat → Nat → Nat) (v w : Int32) : Nat × Int32 :=
  if rfN v 0 60 = 0 then (if w = nI 0 then (0, if n = 0 then nI 0 else nI (yM n y τ (tn v) 1 (mxK (yM n y τ (tn v) 1) n))) else if w = nI 1 then (0, if n = 0 then -9 else nI (mxK (yM n y τ (tn v) 1) n)) else (2, 0)) else (rfN v 0 60, 0)
def q_again (n y : Nat) (τ : Nat → Nat → Nat) : Nat × Int32 := (0, oI (-9) ((fsK (fun j => alB n (yM n y τ (40 + (j + 1))) (yM n y τ 40)) 30).map (· + 1)))
def q_way (n : Nat) (τ : Nat → Nat → Nat) (v w : Int32) : Nat × Int32 := match stN v n with
  | none => (1, 0)
  | some k => match stN w n with
    | none => (1, 0)
    | some o => (0, oI (-9) (fsK (fun j => decide (itr (τ 5) j k = o)) n))
def q_ring (n : Nat) (τ : Nat → Nat → Nat) : Nat × Int32 := (0, nI (bsK (onB n (τ 5)) n))
def q_tail (n : Nat) (τ : Nat → Nat → Nat) (v : Int32) : Nat × Int32 := match stN v n with
  | none => (1, 0)
  | some k => (0, nI ((fsK (fun j => onB n (τ 5) (itr (τ 5) j k)) n).getD n))
def q_rings (n : Nat) (τ : Nat → Nat → Nat) : Nat × Int32 := (0, nI (cntK (fun i => onB n (τ 5) i && decide (lwK (τ 5) i n = i)) n))
def q_never (n : Nat) (τ : Nat → Nat → Nat) : Nat × Int32 := (0, nI (bsK (fun i => decide (fedK (τ 5) i n = 0)) n))
def q_felt (n y : Nat) (τ : Nat → Nat → Nat) (v w : Int32) : Nat × Int32 := match stN v n with
  | none => (1, 0)
  | some k => match stN w n with
    | none => (1, 0)
    | some o => (0, oI (-9) ((fsK (fun j => decide (yrsM n y k 6 τ (j + 1) 1 o ≠ yM n y τ (j + 1) 1 o)) 40).map (· + 1)))
/-- what comes of it is told from 1000000000 on, if it is refused -/
def q_worth (n y : Nat) (τ : Nat → Nat → Nat) (v w : Int32) : Nat × Int32 := match stN v n with
  | none => (1, 0)
  | some k => rfq w 0 60 (nI (sumK (yrsM n y k 6 τ (tn w) 1) n) - nI (sumK (yM n y τ (tn w) 1) n))
def rB (q : Nat × Int32) : Int32 := if q.1 = 0 then q.2 else 1000000000 - (-(nI q.1))
