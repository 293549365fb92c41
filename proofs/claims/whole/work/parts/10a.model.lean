/-! THE MODEL: its streets lie in a row o of 51: how many, the year, and seven places a street -/
def SA (σ : Sg) (o n y : Nat) (τ : Nat → Nat → Nat) : Prop :=
  n ≤ 6 ∧ y < 2 ^ 30 ∧ σ o 0 = nI n ∧ σ o 1 = nI y ∧ (∀ i, i < n → ∀ f, f < 7 → σ o (2 + 7 * i + f) = nI (τ f i)) ∧ WFt n τ
def n9 (z : Nat) : Int32 := if z < 6 then nI z else -9
theorem n9_eq {i z : Nat} (hi : i < 6) : nI i = n9 z ↔ i = z := by
  unfold n9
  by_cases hz : z < 6
  · rw [if_pos hz]; exact nI_eq (by omega) (by omega)
  · rw [if_neg hz]
    constructor
    · intro e
      exact absurd (show nI i < 0 by rw [e]; decide) (nI_pos (by omega))
    · intro e; omega
theorem n9_in {k : Nat} (h : k < 6) : n9 k = nI k := by unfold n9; rw [if_pos h]
def YA (σ : Sg) (n y z l : Nat) (τ : Nat → Nat → Nat) : Prop := SA σ 45 n y τ ∧ σ 43 6 = n9 z ∧ σ 43 7 = n9 l
section SAs
variable {σ : Sg} {o n y z l : Nat} {τ : Nat → Nat → Nat}
theorem SA.n6 (h : SA σ o n y τ) : n ≤ 6 := h.1
theorem SA.yb (h : SA σ o n y τ) : y < 2 ^ 30 := h.2.1
theorem SA.c (h : SA σ o n y τ) : σ o 0 = nI n := h.2.2.1
theorem SA.r (h : SA σ o n y τ) : σ o 1 = nI y := h.2.2.2.1
theorem SA.a (h : SA σ o n y τ) {i : Nat} (hi : i < n) (f : Nat) (hf : f < 7) : σ o (2 + 7 * i + f) = nI (τ f i) := h.2.2.2.2.1 i hi f hf
theorem SA.w (h : SA σ o n y τ) : WFt n τ := h.2.2.2.2.2
theorem SA.cg {υ : Nat → Nat → Nat} (h : SA σ o n y τ) (he : ∀ f, f < 7 → ∀ i, i < n → τ f i = υ f i) : SA σ o n y υ :=
  ⟨h.1, h.2.1, h.c, h.r, fun i hi f hf => by rw [← he f hf i hi]; exact h.a hi f hf, WFt.of fun f hf i hi => by rw [← he f hf i hi]; exact h.w.ok hi f⟩
theorem SA.cp {σ1 : Sg} {o1 : Nat} (h : SA σ o n y τ) (he : ∀ k, k < 51 → σ1 o1 k = σ o k) : SA σ1 o1 n y τ := by
  have hn := h.n6
  exact ⟨h.1, h.2.1, by rw [he 0 (by decide)]; exact h.c, by rw [he 1 (by decide)]; exact h.r, fun i hi f hf => by rw [he _ (by omega)]; exact h.a hi f hf, h.w⟩
theorem SA.fr {σ1 : Sg} (h : SA σ o n y τ) (he : σ1 o = σ o) : SA σ1 o n y τ := h.cp (fun k _ => by rw [he])
theorem SA.wr {f k v : Nat} (h : SA σ o n y τ) (hf : f < 7) (hk : k < n) (hv : okF n f v) : SA (w2 σ o (2 + 7 * k + f) (nI v)) o n y (setF τ f (upN (τ f) k v)) := by
  refine ⟨h.1, h.2.1, by rw [w2_nk (by omega)]; exact h.c, by rw [w2_nk (by omega)]; exact h.r, fun i hi g hg => ?_, WFt.of fun g hg i hi => ?_⟩
  · rw [w2_rd]
    by_cases hgf : g = f
    · subst hgf
      rw [setF_at]; unfold upN
      by_cases hik : i = k
      · rw [if_pos ⟨rfl, by omega⟩, if_pos hik]
      · rw [if_neg (fun q => hik (by omega)), if_neg hik]; exact h.a hi g hg
    · rw [if_neg (fun q => hgf (by omega)), setF_ne hgf]; exact h.a hi g hg
  · by_cases hgf : g = f
    · subst hgf
      rw [setF_at]; unfold upN
      by_cases hik : i = k
      · rw [if_pos hik]; exact hv
      · rw [if_neg hik]; exact h.w.ok hi g
    · rw [setF_ne hgf]; exact h.w.ok hi g
theorem SA.wy {y2 : Nat} (h : SA σ o n y τ) (hy : y2 < 2 ^ 30) : SA (w2 σ o 1 (nI y2)) o n y2 τ :=
  ⟨h.1, hy, by rw [w2_nk (by decide)]; exact h.c, by rw [w2_at], fun i hi g hg => by rw [w2_nk (by omega)]; exact h.a hi g hg, h.w⟩
theorem SA.ww {o1 k : Nat} {v : Int32} (h : SA σ o n y τ) (ho : o ≠ o1) : SA (w2 σ o1 k v) o n y τ := h.fr (w2_ne ho)
theorem YA.s (h : YA σ n y z l τ) : SA σ 45 n y τ := h.1
theorem YA.n6 (h : YA σ n y z l τ) : n ≤ 6 := h.1.1
theorem YA.w (h : YA σ n y z l τ) : WFt n τ := h.1.w
theorem YA.cg {υ : Nat → Nat → Nat} (h : YA σ n y z l τ) (he : ∀ f, f < 7 → ∀ i, i < n → τ f i = υ f i) : YA σ n y z l υ := ⟨h.1.cg he, h.2⟩
theorem YA.wr {f k v : Nat} (h : YA σ n y z l τ) (hf : f < 7) (hk : k < n) (hv : okF n f v) : YA (w2 σ 45 (2 + 7 * k + f) (nI v)) n y z l (setF τ f (upN (τ f) k v)) :=
  ⟨h.1.wr hf hk hv, by rw [w2_ne (by decide)]; exact h.2.1, by rw [w2_ne (by decide)]; exact h.2.2⟩
theorem YA.ww {o1 k : Nat} {v : Int32} (h : YA σ n y z l τ) (h5 : 45 ≠ o1) (h3 : 43 ≠ o1) : YA (w2 σ o1 k v) n y z l τ :=
  ⟨h.1.ww h5, by rw [w2_ne h3]; exact h.2.1, by rw [w2_ne h3]; exact h.2.2⟩
theorem YA.wz {z2 : Nat} (h : YA σ n y z l τ) : YA (w2 σ 43 6 (n9 z2)) n y z2 l τ :=
  ⟨h.1.ww (by decide), by rw [w2_at], by rw [w2_nk (by decide)]; exact h.2.2⟩
theorem YA.wl {l2 : Nat} (h : YA σ n y z l τ) : YA (w2 σ 43 7 (n9 l2)) n y z l2 τ :=
  ⟨h.1.ww (by decide), by rw [w2_nk (by decide)]; exact h.2.1, by rw [w2_at]⟩
end SAs
/-- what the years leave as it is -/
def Gy (σ σ1 : Sg) : Prop := ∀ o, o ≠ 45 → o ≠ 51 → σ1 o = σ o
theorem Gy.rf {σ : Sg} : Gy σ σ := fun _ _ _ => rfl
theorem Gy.tr {σ σ1 σ2 : Sg} (h : Gy σ σ1) (h2 : Gy σ1 σ2) : Gy σ σ2 := fun o h5 h6 => (h2 o h5 h6).trans (h o h5 h6)
theorem Gy.w {σ σ1 : Sg} {o k : Nat} {v : Int32} (h : Gy σ σ1) (ho : o = 45 ∨ o = 51) : Gy σ (w2 σ1 o k v) := fun q h1 h2 => by
  rw [w2_ne (by omega)]; exact h q h1 h2
/-- what the questions leave as it is -/
def Gz (σ σ1 : Sg) : Prop := (∀ o, (o < 43 ∨ o = 44 ∨ o = 46 ∨ o = 49 ∨ o = 56) → σ1 o = σ o) ∧ ∀ k, (k = 5 ∨ k = 10 ∨ k = 19) → σ1 43 k = σ 43 k
theorem Gz.rf {σ : Sg} : Gz σ σ := ⟨fun _ _ => rfl, fun _ _ => rfl⟩
theorem Gz.tr {σ σ1 σ2 : Sg} (h : Gz σ σ1) (h2 : Gz σ1 σ2) : Gz σ σ2 := ⟨fun o ho => (h2.1 o ho).trans (h.1 o ho), fun k hk => (h2.2 k hk).trans (h.2 k hk)⟩
theorem Gz.y {σ σ1 σ2 : Sg} (h : Gz σ σ1) (h2 : Gy σ1 σ2) : Gz σ σ2 := h.tr ⟨fun o ho => h2 o (by omega) (by omega), fun k _ => by rw [h2 43 (by decide) (by decide)]⟩
theorem Gz.w {σ σ1 : Sg} {o k : Nat} {v : Int32} (h : Gz σ σ1) (ho : o = 45 ∨ o = 47 ∨ o = 48 ∨ o = 50 ∨ o = 51 ∨ o = 52 ∨ o = 53 ∨ o = 54 ∨ o = 55) : Gz σ (w2 σ1 o k v) :=
  ⟨fun q hq => by rw [w2_ne (by omega)]; exact h.1 q hq, fun q hq => by rw [w2_ne (by omega)]; exact h.2 q hq⟩
theorem Gz.w3 {σ σ1 : Sg} {k : Nat} {v : Int32} (h : Gz σ σ1) (hk : k = 6 ∨ k = 7 ∨ k = 11 ∨ k = 17) : Gz σ (w2 σ1 43 k v) :=
  ⟨fun q hq => by rw [w2_ne (by omega)]; exact h.1 q hq, fun q hq => by rw [w2_nk (by omega)]; exact h.2 q hq⟩
theorem Gz.c {σ σ1 σ2 : Sg} {o : Nat} (h : Gz σ σ1) (h2 : ∀ q, q ≠ o → σ2 q = σ1 q) (ho : o = 45 ∨ o = 47 ∨ o = 48 ∨ o = 52) : Gz σ σ2 :=
  ⟨fun q hq => (h2 q (by omega)).trans (h.1 q hq), fun k hk => by rw [h2 43 (by omega)]; exact h.2 k hk⟩
theorem YA.gy {σ σ2 : Sg} {n y z l : Nat} {τ : Nat → Nat → Nat} (h : SA σ2 45 n y τ) (h0 : σ 43 6 = n9 z ∧ σ 43 7 = n9 l) (hF : Gy σ σ2) : YA σ2 n y z l τ :=
  ⟨h, by rw [hF 43 (by decide) (by decide)]; exact h0.1, by rw [hF 43 (by decide) (by decide)]; exact h0.2⟩
def MR (σ : Sg) (n y : Nat) (τ : Nat → Nat → Nat) (fl n2 y2 : Nat) (τ2 : Nat → Nat → Nat) (m : Nat) (cs : Nat → Nat) (rl : Nat) (ro rc : Nat → Nat) : Prop :=
  (YA σ n y 6 6 τ ∧ y ≤ 999) ∧ (σ 43 5 = nI fl ∧ fl ≤ 1 ∧ (fl = 1 → SA σ 46 n2 y2 τ2 ∧ y2 ≤ 999)) ∧ (m ≤ 64 ∧ σ 43 10 = nI m ∧ ∀ i, i < m → σ 49 i = nI (cs i) ∧ cs i < 256) ∧ (σ 43 19 = nI rl ∧ rl ≤ 6 ∧ ∀ i, i < rl → σ 56 i = nI (ro i) ∧ ro i ≤ 9) ∧ ∀ k, 1 ≤ k → k ≤ 6 → σ 44 k = nI (rc k)
def Fm (σ σ1 : Sg) : Prop := ∀ o, o < 43 → σ1 o = σ o
section MRs
variable {σ σ1 : Sg} {n y : Nat} {τ : Nat → Nat → Nat} {fl n2 y2 : Nat} {τ2 : Nat → Nat → Nat} {m : Nat} {cs : Nat → Nat} {rl : Nat} {ro rc : Nat → Nat}
theorem MR.now (h : MR σ n y τ fl n2 y2 τ2 m cs rl ro rc) : YA σ n y 6 6 τ := h.1.1
theorem MR.y9 (h : MR σ n y τ fl n2 y2 τ2 m cs rl ro rc) : y ≤ 999 := h.1.2
theorem MR.fl0 (h : MR σ n y τ fl n2 y2 τ2 m cs rl ro rc) : σ 43 5 = nI fl := h.2.1.1
theorem MR.tx (h : MR σ n y τ fl n2 y2 τ2 m cs rl ro rc) : m ≤ 64 ∧ σ 43 10 = nI m ∧ ∀ i, i < m → σ 49 i = nI (cs i) ∧ cs i < 256 := h.2.2.1
theorem MR.rl0 (h : MR σ n y τ fl n2 y2 τ2 m cs rl ro rc) : σ 43 19 = nI rl := h.2.2.2.1.1
theorem MR.rl6 (h : MR σ n y τ fl n2 y2 τ2 m cs rl ro rc) : rl ≤ 6 := h.2.2.2.1.2.1
theorem MR.rw0 (h : MR σ n y τ fl n2 y2 τ2 m cs rl ro rc) {i : Nat} (hi : i < rl) : σ 56 i = nI (ro i) ∧ ro i ≤ 9 := h.2.2.2.1.2.2 i hi
theorem MR.rc0 (h : MR σ n y τ fl n2 y2 τ2 m cs rl ro rc) {k : Nat} (h1 : 1 ≤ k) (h6 : k ≤ 6) : σ 44 k = nI (rc k) := h.2.2.2.2 k h1 h6
theorem MR.gz {n' y' : Nat} {τ' : Nat → Nat → Nat} (h : MR σ n y τ fl n2 y2 τ2 m cs rl ro rc) (hT : YA σ1 n' y' 6 6 τ') (hy : y' ≤ 999) (hF : Gz σ σ1) : MR σ1 n' y' τ' fl n2 y2 τ2 m cs rl ro rc := by
  obtain ⟨⟨a1, a2⟩, ⟨b1, b2, b3⟩, ⟨c1, c2, c3⟩, ⟨d1, d2, d3⟩, e⟩ := h
  exact ⟨⟨hT, hy⟩, ⟨by rw [hF.2 5 (by decide)]; exact b1, b2, fun h9 => ⟨(b3 h9).1.fr (hF.1 46 (by decide)), (b3 h9).2⟩⟩, ⟨c1, by rw [hF.2 10 (by decide)]; exact c2, by rw [hF.1 49 (by decide)]; exact c3⟩, ⟨by rw [hF.2 19 (by decide)]; exact d1, d2, by rw [hF.1 56 (by decide)]; exact d3⟩, by rw [hF.1 44 (by decide)]; exact e⟩
theorem MR.rf (h : MR σ n y τ fl n2 y2 τ2 m cs rl ro rc) (k : Nat) : MR (w2 σ 44 k (nI (rc k + 1))) n y τ fl n2 y2 τ2 m cs rl ro (upN rc k (rc k + 1)) := by
  obtain ⟨⟨a1, a2⟩, ⟨b1, b2, b3⟩, ⟨c1, c2, c3⟩, ⟨d1, d2, d3⟩, e⟩ := h
  refine ⟨⟨a1.ww (by decide) (by decide), a2⟩, ⟨by rw [w2_ne (by decide)]; exact b1, b2, fun h9 => ⟨(b3 h9).1.ww (by decide), (b3 h9).2⟩⟩, ⟨c1, by rw [w2_ne (by decide)]; exact c2, by rw [w2_ne (by decide)]; exact c3⟩, ⟨by rw [w2_ne (by decide)]; exact d1, d2, by rw [w2_ne (by decide)]; exact d3⟩, fun j h1 h6 => ?_⟩
  rw [w2_rd]; unfold upN
  by_cases hj : j = k
  · rw [if_pos ⟨rfl, hj⟩, if_pos hj]
  · rw [if_neg (fun h9 => hj h9.2), if_neg hj]; exact e j h1 h6
/-- the end of a call that only asks -/
def MP (σ : Sg) (n y : Nat) (τ : Nat → Nat → Nat) (fl n2 y2 : Nat) (τ2 : Nat → Nat → Nat) (m : Nat) (cs : Nat → Nat) (rl : Nat) (ro rc : Nat → Nat) (q : Nat × Int32) : Int32 → Sg → Prop := fun r σ1 => r = rA q ∧ MR σ1 n y τ fl n2 y2 τ2 m cs rl ro (rU rc q) ∧ Fm σ σ1
theorem MP.no {q : Nat × Int32} {k : Nat} {v : Int32} (h : MR σ n y τ fl n2 y2 τ2 m cs rl ro rc) (hq : q = (k, 0)) (hk : 0 < k) (hv : v = -(nI k)) : MP σ n y τ fl n2 y2 τ2 m cs rl ro rc q v (w2 σ 44 k (nI (rc k + 1))) := by
  subst hq
  have hk0 : ¬ k = 0 := by omega
  refine ⟨?_, ?_, fun o ho => w2_ne (by omega)⟩
  · show v = if k = 0 then 0 else -(nI k)
    rw [if_neg hk0]; exact hv
  · show MR _ n y τ fl n2 y2 τ2 m cs rl ro (if k = 0 then rc else upN rc k (rc k + 1))
    rw [if_neg hk0]; exact h.rf k
theorem MP.yes {q : Nat × Int32} {v : Int32} (h : MR σ n y τ fl n2 y2 τ2 m cs rl ro rc) (hT : YA σ1 n y 6 6 τ) (hF : Gz σ σ1) (hq : q = (0, v)) : MP σ n y τ fl n2 y2 τ2 m cs rl ro rc q v σ1 := by
  subst hq
  exact ⟨rfl, h.gz hT h.y9 hF, fun o ho => hF.1 o (Or.inl ho)⟩
end MRs
