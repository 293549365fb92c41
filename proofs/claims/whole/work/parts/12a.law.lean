/-! THE LAW: its script is the cell 102 of the address map; the object is 0, the model 43 -/
def LC (x : Cx) (ys : Nat → Int32) (L : Nat) : Prop := va_X ((xG x).2.2.2 102) L ys (xs x) (xs x).heap ∧ (xG x).2.2.2 102 < (xs x).heap.size ∧ ¬ xA x ((xG x).2.2.2 102) ∧ L ≤ 2048 ∧ ∀ d, d ≤ 30 → Rm x d
theorem LC.rm {x : Cx} {ys : Nat → Int32} {L d : Nat} (h : LC x ys L) (hd : d ≤ 30) : Rm x d := h.2.2.2.2 d hd
section VL
variable {x : Cx} {own : String} {cc : ByteArray} {nL pc q : Nat} {Lc : List (Option Value)} {st : List Value} {σ : Sg} {ys : Nat → Int32} {L : Nat}
theorem V.slen (hC : LC x ys L) (hd : decode cc pc = .ok (.arraylength, 1)) (e : pc + 1 = q) (h : V x own cc nL q Lc (.int (nI L) :: st) σ) : V x own cc nL pc Lc (.ref 102 :: st) σ :=
  fun hF H locs ls hP hS hl => va_slen hF.1 hF.2.1 hC.1 hC.2.1 hC.2.2.1 hS hd (e ▸ h hF H locs ls hP hS hl)
theorem V.sld {i : Nat} (hC : LC x ys L) (hi : i < L) (hd : decode cc pc = .ok (.iaload, 1)) (e : pc + 1 = q) (h : V x own cc nL q Lc (.int (ys i) :: st) σ) : V x own cc nL pc Lc (.int (nI i) :: .ref 102 :: st) σ := by
  intro hF H locs ls hP hS hl
  have hL := hC.2.2.2.1
  have h1 := h hF H locs ls hP hS hl
  subst e
  refine va_sld hF.1 hF.2.1 hC.1 hC.2.1 hC.2.2.1 hS (vp_in_nI hi (by omega)) hd ?_
  rw [nI_clamp (show i < 2 ^ 31 by omega)]
  exact h1
end VL
section FRs
variable {σ σ1 : Sg} {n y : Nat} {τ : Nat → Nat → Nat} {fl n2 y2 : Nat} {τ2 : Nat → Nat → Nat} {m : Nat} {cs : Nat → Nat} {rl : Nat} {ro rc : Nat → Nat}
theorem XR.fm (h : XR σ n y τ fl n2 y2 τ2 m cs rl ro rc) (hf : Fm σ σ1) : XR σ1 n y τ fl n2 y2 τ2 m cs rl ro rc := by
  obtain ⟨⟨a1, a2⟩, ⟨b1, b2, b3⟩, c, ⟨d1, d2, d3⟩, e⟩ := h
  refine ⟨⟨a1.fr (fun o h1 h2 => hf o (by omega)), a2⟩, ⟨by rw [hf 0 (by decide)]; exact b1, b2, fun h9 => ⟨(b3 h9).1.fr (fun o h1 h2 => hf o (by omega)), (b3 h9).2⟩⟩, ⟨c.1, by rw [hf 37 (by decide)]; exact c.2.1, by rw [hf 38 (by decide)]; exact c.2.2⟩, ⟨by rw [hf 0 (by decide)]; exact d1, d2, by rw [hf 41 (by decide)]; exact d3⟩, by rw [hf 42 (by decide)]; exact e⟩
theorem MR.fx (h : MR σ n y τ fl n2 y2 τ2 m cs rl ro rc) (hf : Fx σ σ1) : MR σ1 n y τ fl n2 y2 τ2 m cs rl ro rc := by
  obtain ⟨⟨a1, a2⟩, ⟨b1, b2, b3⟩, ⟨c1, c2, c3⟩, ⟨d1, d2, d3⟩, e⟩ := h
  exact ⟨⟨⟨a1.1.fr (hf 45 (by decide)), by rw [hf 43 (by decide)]; exact a1.2⟩, a2⟩, ⟨by rw [hf 43 (by decide)]; exact b1, b2, fun h9 => ⟨(b3 h9).1.fr (hf 46 (by decide)), (b3 h9).2⟩⟩, ⟨c1, by rw [hf 43 (by decide)]; exact c2, by rw [hf 49 (by decide)]; exact c3⟩, ⟨by rw [hf 43 (by decide)]; exact d1, d2, by rw [hf 56 (by decide)]; exact d3⟩, by rw [hf 44 (by decide)]; exact e⟩
end FRs
/-- both sides are one thing -/
def Iv (σ : Sg) : Prop := ∃ (n y : Nat) (τ : Nat → Nat → Nat) (fl n2 y2 : Nat) (τ2 : Nat → Nat → Nat) (m : Nat) (cs : Nat → Nat) (rl : Nat) (ro rc : Nat → Nat), XR σ n y τ fl n2 y2 τ2 m cs rl ro rc ∧ MR σ n y τ fl n2 y2 τ2 m cs rl ro rc
theorem Iv.mk {σ : Sg} {n y : Nat} {τ : Nat → Nat → Nat} {fl n2 y2 : Nat} {τ2 : Nat → Nat → Nat} {m : Nat} {cs : Nat → Nat} {rl : Nat} {ro rc : Nat → Nat} (h1 : XR σ n y τ fl n2 y2 τ2 m cs rl ro rc) (h2 : MR σ n y τ fl n2 y2 τ2 m cs rl ro rc) : Iv σ := ⟨n, y, τ, fl, n2, y2, τ2, m, cs, rl, ro, rc, h1, h2⟩
-- letter
set_option maxHeartbeats 4000000 in
set_option maxRecDepth 100000 in
theorem l_letter {x : Cx} {ys : Nat → Int32} {L : Nat} (hC : LC x ys L) {i : Nat} (hi : i + 4 ≤ L) {σ : Sg} {n y : Nat} {τ : Nat → Nat → Nat} {fl n2 y2 : Nat} {τ2 : Nat → Nat → Nat} {m : Nat} {cs : Nat → Nat} {rl : Nat} {ro rc : Nat → Nat} (hX : XR σ n y τ fl n2 y2 τ2 m cs rl ro rc) (hM : MR σ n y τ fl n2 y2 τ2 m cs rl ro rc) (K : ∀ σ1 : Sg, Iv σ1 → V x RL cL_law 4 901 [some (.ref 102), some (.ref 0), some (.ref 43), some (.int (nI i))] [] σ1) : V x RL cL_law 4 164 [some (.ref 102), some (.ref 0), some (.ref 43), some (.int (nI i))] [] σ := by
  refine V.aload_n (q := 165) dL_law_164 rfl rfl ?_
  refine V.aload_n (q := 166) dL_law_165 rfl rfl ?_
  refine V.iload_n (q := 167) dL_law_166 rfl rfl ?_
  refine V.iconst (q := 168) (v := nI 1) dL_law_167 rfl (by decide +kernel) ?_
  refine V.iaddN (q := 169) dL_law_168 rfl ?_
  refine V.sld (q := 170) hC (by omega) dL_law_169 rfl ?_
  refine V.cvi1 (q := 173) dL_law_170 rfl kc_L_13 rfl (by decide) rfl (hC.rm (by decide)) (Nat.le_of_ble_eq_true rfl) (p_letter hX (ys (i + 1))) (fun r170 τ170 hp170 => ?_)
  obtain ⟨rfl, hX1, hF1⟩ := hp170
  have hM1 := hM.fx hF1
  refine V.aload_n (q := 174) dL_law_173 rfl rfl ?_
  refine V.aload_n (q := 175) dL_law_174 rfl rfl ?_
  refine V.iload_n (q := 176) dL_law_175 rfl rfl ?_
  refine V.iconst (q := 177) (v := nI 1) dL_law_176 rfl (by decide +kernel) ?_
  refine V.iaddN (q := 178) dL_law_177 rfl ?_
  refine V.sld (q := 179) hC (by omega) dL_law_178 rfl ?_
  refine V.cvi1 (q := 182) dL_law_179 rfl kc_L_17 rfl (by decide) rfl (hC.rm (by decide)) (Nat.le_of_ble_eq_true rfl) (m_letter hM1 (ys (i + 1))) (fun r179 τ179 hp179 => ?_)
  obtain ⟨rfl, hM2, hF2⟩ := hp179
  have hX2 := hX1.fm hF2
  exact V.icmp_eq (t := 901) (q := 185) dL_law_182 (by decide) rfl (fun _ => K _ (Iv.mk hX2 hM2)) (fun h9 => absurd rfl h9)
-- town
set_option maxHeartbeats 4000000 in
set_option maxRecDepth 100000 in
theorem l_town {x : Cx} {ys : Nat → Int32} {L : Nat} (hC : LC x ys L) {i : Nat} (hi : i + 4 ≤ L) {σ : Sg} {n y : Nat} {τ : Nat → Nat → Nat} {fl n2 y2 : Nat} {τ2 : Nat → Nat → Nat} {m : Nat} {cs : Nat → Nat} {rl : Nat} {ro rc : Nat → Nat} (hX : XR σ n y τ fl n2 y2 τ2 m cs rl ro rc) (hM : MR σ n y τ fl n2 y2 τ2 m cs rl ro rc) (K : ∀ σ1 : Sg, Iv σ1 → V x RL cL_law 4 901 [some (.ref 102), some (.ref 0), some (.ref 43), some (.int (nI i))] [] σ1) : V x RL cL_law 4 187 [some (.ref 102), some (.ref 0), some (.ref 43), some (.int (nI i))] [] σ := by
  refine V.aload_n (q := 188) dL_law_187 rfl rfl ?_
  refine V.cvi0 (q := 191) dL_law_188 rfl kc_L_18 rfl (by decide) rfl (hC.rm (by decide)) (Nat.le_of_ble_eq_true rfl) (p_town hX) (fun r188 τ188 hp188 => ?_)
  obtain ⟨rfl, hX1, hF1⟩ := hp188
  have hM1 := hM.fx hF1
  refine V.aload_n (q := 192) dL_law_191 rfl rfl ?_
  refine V.cvi0 (q := 195) dL_law_192 rfl kc_L_22 rfl (by decide) rfl (hC.rm (by decide)) (Nat.le_of_ble_eq_true rfl) (m_town hM1) (fun r192 τ192 hp192 => ?_)
  obtain ⟨rfl, hM2, hF2⟩ := hp192
  have hX2 := hX1.fm hF2
  exact V.icmp_eq (t := 901) (q := 198) dL_law_195 (by decide) rfl (fun _ => K _ (Iv.mk hX2 hM2)) (fun h9 => absurd rfl h9)
-- street
set_option maxHeartbeats 4000000 in
set_option maxRecDepth 100000 in
theorem l_street {x : Cx} {ys : Nat → Int32} {L : Nat} (hC : LC x ys L) {i : Nat} (hi : i + 4 ≤ L) {σ : Sg} {n y : Nat} {τ : Nat → Nat → Nat} {fl n2 y2 : Nat} {τ2 : Nat → Nat → Nat} {m : Nat} {cs : Nat → Nat} {rl : Nat} {ro rc : Nat → Nat} (hX : XR σ n y τ fl n2 y2 τ2 m cs rl ro rc) (hM : MR σ n y τ fl n2 y2 τ2 m cs rl ro rc) (K : ∀ σ1 : Sg, Iv σ1 → V x RL cL_law 4 901 [some (.ref 102), some (.ref 0), some (.ref 43), some (.int (nI i))] [] σ1) : V x RL cL_law 4 200 [some (.ref 102), some (.ref 0), some (.ref 43), some (.int (nI i))] [] σ := by
  refine V.aload_n (q := 201) dL_law_200 rfl rfl ?_
  refine V.aload_n (q := 202) dL_law_201 rfl rfl ?_
  refine V.iload_n (q := 203) dL_law_202 rfl rfl ?_
  refine V.iconst (q := 204) (v := nI 1) dL_law_203 rfl (by decide +kernel) ?_
  refine V.iaddN (q := 205) dL_law_204 rfl ?_
  refine V.sld (q := 206) hC (by omega) dL_law_205 rfl ?_
  refine V.aload_n (q := 207) dL_law_206 rfl rfl ?_
  refine V.iload_n (q := 208) dL_law_207 rfl rfl ?_
  refine V.iconst (q := 209) (v := nI 2) dL_law_208 rfl (by decide +kernel) ?_
  refine V.iaddN (q := 210) dL_law_209 rfl ?_
  refine V.sld (q := 211) hC (by omega) dL_law_210 rfl ?_
  refine V.cvi2 (q := 214) dL_law_211 rfl kc_L_23 rfl (by decide) rfl (hC.rm (by decide)) (Nat.le_of_ble_eq_true rfl) (p_street hX (ys (i + 1)) (ys (i + 2))) (fun r211 τ211 hp211 => ?_)
  obtain ⟨rfl, hX1, hF1⟩ := hp211
  have hM1 := hM.fx hF1
  refine V.aload_n (q := 215) dL_law_214 rfl rfl ?_
  refine V.aload_n (q := 216) dL_law_215 rfl rfl ?_
  refine V.iload_n (q := 217) dL_law_216 rfl rfl ?_
  refine V.iconst (q := 218) (v := nI 1) dL_law_217 rfl (by decide +kernel) ?_
  refine V.iaddN (q := 219) dL_law_218 rfl ?_
  refine V.sld (q := 220) hC (by omega) dL_law_219 rfl ?_
  refine V.aload_n (q := 221) dL_law_220 rfl rfl ?_
  refine V.iload_n (q := 222) dL_law_221 rfl rfl ?_
  refine V.iconst (q := 223) (v := nI 2) dL_law_222 rfl (by decide +kernel) ?_
  refine V.iaddN (q := 224) dL_law_223 rfl ?_
  refine V.sld (q := 225) hC (by omega) dL_law_224 rfl ?_
  refine V.cvi2 (q := 228) dL_law_225 rfl kc_L_27 rfl (by decide) rfl (hC.rm (by decide)) (Nat.le_of_ble_eq_true rfl) (m_street hM1 (ys (i + 1)) (ys (i + 2))) (fun r225 τ225 hp225 => ?_)
  obtain ⟨rfl, hM2, hF2⟩ := hp225
  have hX2 := hX1.fm hF2
  exact V.icmp_eq (t := 901) (q := 231) dL_law_228 (by decide) rfl (fun _ => K _ (Iv.mk hX2 hM2)) (fun h9 => absurd rfl h9)
-- mends
set_option maxHeartbeats 4000000 in
set_option maxRecDepth 100000 in
theorem l_mends {x : Cx} {ys : Nat → Int32} {L : Nat} (hC : LC x ys L) {i : Nat} (hi : i + 4 ≤ L) {σ : Sg} {n y : Nat} {τ : Nat → Nat → Nat} {fl n2 y2 : Nat} {τ2 : Nat → Nat → Nat} {m : Nat} {cs : Nat → Nat} {rl : Nat} {ro rc : Nat → Nat} (hX : XR σ n y τ fl n2 y2 τ2 m cs rl ro rc) (hM : MR σ n y τ fl n2 y2 τ2 m cs rl ro rc) (K : ∀ σ1 : Sg, Iv σ1 → V x RL cL_law 4 901 [some (.ref 102), some (.ref 0), some (.ref 43), some (.int (nI i))] [] σ1) : V x RL cL_law 4 233 [some (.ref 102), some (.ref 0), some (.ref 43), some (.int (nI i))] [] σ := by
  refine V.aload_n (q := 234) dL_law_233 rfl rfl ?_
  refine V.aload_n (q := 235) dL_law_234 rfl rfl ?_
  refine V.iload_n (q := 236) dL_law_235 rfl rfl ?_
  refine V.iconst (q := 237) (v := nI 1) dL_law_236 rfl (by decide +kernel) ?_
  refine V.iaddN (q := 238) dL_law_237 rfl ?_
  refine V.sld (q := 239) hC (by omega) dL_law_238 rfl ?_
  refine V.aload_n (q := 240) dL_law_239 rfl rfl ?_
  refine V.iload_n (q := 241) dL_law_240 rfl rfl ?_
  refine V.iconst (q := 242) (v := nI 2) dL_law_241 rfl (by decide +kernel) ?_
  refine V.iaddN (q := 243) dL_law_242 rfl ?_
  refine V.sld (q := 244) hC (by omega) dL_law_243 rfl ?_
  refine V.cvi2 (q := 247) dL_law_244 rfl kc_L_28 rfl (by decide) rfl (hC.rm (by decide)) (Nat.le_of_ble_eq_true rfl) (p_mends hX (ys (i + 1)) (ys (i + 2))) (fun r244 τ244 hp244 => ?_)
  obtain ⟨rfl, hX1, hF1⟩ := hp244
  have hM1 := hM.fx hF1
  refine V.aload_n (q := 248) dL_law_247 rfl rfl ?_
  refine V.aload_n (q := 249) dL_law_248 rfl rfl ?_
  refine V.iload_n (q := 250) dL_law_249 rfl rfl ?_
  refine V.iconst (q := 251) (v := nI 1) dL_law_250 rfl (by decide +kernel) ?_
  refine V.iaddN (q := 252) dL_law_251 rfl ?_
  refine V.sld (q := 253) hC (by omega) dL_law_252 rfl ?_
  refine V.aload_n (q := 254) dL_law_253 rfl rfl ?_
  refine V.iload_n (q := 255) dL_law_254 rfl rfl ?_
  refine V.iconst (q := 256) (v := nI 2) dL_law_255 rfl (by decide +kernel) ?_
  refine V.iaddN (q := 257) dL_law_256 rfl ?_
  refine V.sld (q := 258) hC (by omega) dL_law_257 rfl ?_
  refine V.cvi2 (q := 261) dL_law_258 rfl kc_L_31 rfl (by decide) rfl (hC.rm (by decide)) (Nat.le_of_ble_eq_true rfl) (m_mends hM1 (ys (i + 1)) (ys (i + 2))) (fun r258 τ258 hp258 => ?_)
  obtain ⟨rfl, hM2, hF2⟩ := hp258
  have hX2 := hX1.fm hF2
  exact V.icmp_eq (t := 901) (q := 264) dL_law_261 (by decide) rfl (fun _ => K _ (Iv.mk hX2 hM2)) (fun h9 => absurd rfl h9)
-- pence
set_option maxHeartbeats 4000000 in
set_option maxRecDepth 100000 in
theorem l_pence {x : Cx} {ys : Nat → Int32} {L : Nat} (hC : LC x ys L) {i : Nat} (hi : i + 4 ≤ L) {σ : Sg} {n y : Nat} {τ : Nat → Nat → Nat} {fl n2 y2 : Nat} {τ2 : Nat → Nat → Nat} {m : Nat} {cs : Nat → Nat} {rl : Nat} {ro rc : Nat → Nat} (hX : XR σ n y τ fl n2 y2 τ2 m cs rl ro rc) (hM : MR σ n y τ fl n2 y2 τ2 m cs rl ro rc) (K : ∀ σ1 : Sg, Iv σ1 → V x RL cL_law 4 901 [some (.ref 102), some (.ref 0), some (.ref 43), some (.int (nI i))] [] σ1) : V x RL cL_law 4 266 [some (.ref 102), some (.ref 0), some (.ref 43), some (.int (nI i))] [] σ := by
  refine V.aload_n (q := 267) dL_law_266 rfl rfl ?_
  refine V.aload_n (q := 268) dL_law_267 rfl rfl ?_
  refine V.iload_n (q := 269) dL_law_268 rfl rfl ?_
  refine V.iconst (q := 270) (v := nI 1) dL_law_269 rfl (by decide +kernel) ?_
  refine V.iaddN (q := 271) dL_law_270 rfl ?_
  refine V.sld (q := 272) hC (by omega) dL_law_271 rfl ?_
  refine V.aload_n (q := 273) dL_law_272 rfl rfl ?_
  refine V.iload_n (q := 274) dL_law_273 rfl rfl ?_
  refine V.iconst (q := 275) (v := nI 2) dL_law_274 rfl (by decide +kernel) ?_
  refine V.iaddN (q := 276) dL_law_275 rfl ?_
  refine V.sld (q := 277) hC (by omega) dL_law_276 rfl ?_
  refine V.cvi2 (q := 280) dL_law_277 rfl kc_L_32 rfl (by decide) rfl (hC.rm (by decide)) (Nat.le_of_ble_eq_true rfl) (p_pence hX (ys (i + 1)) (ys (i + 2))) (fun r277 τ277 hp277 => ?_)
  obtain ⟨rfl, hX1, hF1⟩ := hp277
  have hM1 := hM.fx hF1
  refine V.aload_n (q := 281) dL_law_280 rfl rfl ?_
  refine V.aload_n (q := 282) dL_law_281 rfl rfl ?_
  refine V.iload_n (q := 283) dL_law_282 rfl rfl ?_
  refine V.iconst (q := 284) (v := nI 1) dL_law_283 rfl (by decide +kernel) ?_
  refine V.iaddN (q := 285) dL_law_284 rfl ?_
  refine V.sld (q := 286) hC (by omega) dL_law_285 rfl ?_
  refine V.aload_n (q := 287) dL_law_286 rfl rfl ?_
  refine V.iload_n (q := 288) dL_law_287 rfl rfl ?_
  refine V.iconst (q := 289) (v := nI 2) dL_law_288 rfl (by decide +kernel) ?_
  refine V.iaddN (q := 290) dL_law_289 rfl ?_
  refine V.sld (q := 291) hC (by omega) dL_law_290 rfl ?_
  refine V.cvi2 (q := 294) dL_law_291 rfl kc_L_35 rfl (by decide) rfl (hC.rm (by decide)) (Nat.le_of_ble_eq_true rfl) (m_pence hM1 (ys (i + 1)) (ys (i + 2))) (fun r291 τ291 hp291 => ?_)
  obtain ⟨rfl, hM2, hF2⟩ := hp291
  have hX2 := hX1.fm hF2
  exact V.icmp_eq (t := 901) (q := 297) dL_law_294 (by decide) rfl (fun _ => K _ (Iv.mk hX2 hM2)) (fun h9 => absurd rfl h9)
-- hands
set_option maxHeartbeats 4000000 in
set_option maxRecDepth 100000 in
theorem l_hands {x : Cx} {ys : Nat → Int32} {L : Nat} (hC : LC x ys L) {i : Nat} (hi : i + 4 ≤ L) {σ : Sg} {n y : Nat} {τ : Nat → Nat → Nat} {fl n2 y2 : Nat} {τ2 : Nat → Nat → Nat} {m : Nat} {cs : Nat → Nat} {rl : Nat} {ro rc : Nat → Nat} (hX : XR σ n y τ fl n2 y2 τ2 m cs rl ro rc) (hM : MR σ n y τ fl n2 y2 τ2 m cs rl ro rc) (K : ∀ σ1 : Sg, Iv σ1 → V x RL cL_law 4 901 [some (.ref 102), some (.ref 0), some (.ref 43), some (.int (nI i))] [] σ1) : V x RL cL_law 4 299 [some (.ref 102), some (.ref 0), some (.ref 43), some (.int (nI i))] [] σ := by
  refine V.aload_n (q := 300) dL_law_299 rfl rfl ?_
  refine V.aload_n (q := 301) dL_law_300 rfl rfl ?_
  refine V.iload_n (q := 302) dL_law_301 rfl rfl ?_
  refine V.iconst (q := 303) (v := nI 1) dL_law_302 rfl (by decide +kernel) ?_
  refine V.iaddN (q := 304) dL_law_303 rfl ?_
  refine V.sld (q := 305) hC (by omega) dL_law_304 rfl ?_
  refine V.aload_n (q := 306) dL_law_305 rfl rfl ?_
  refine V.iload_n (q := 307) dL_law_306 rfl rfl ?_
  refine V.iconst (q := 308) (v := nI 2) dL_law_307 rfl (by decide +kernel) ?_
  refine V.iaddN (q := 309) dL_law_308 rfl ?_
  refine V.sld (q := 310) hC (by omega) dL_law_309 rfl ?_
  refine V.cvi2 (q := 313) dL_law_310 rfl kc_L_36 rfl (by decide) rfl (hC.rm (by decide)) (Nat.le_of_ble_eq_true rfl) (p_hands hX (ys (i + 1)) (ys (i + 2))) (fun r310 τ310 hp310 => ?_)
  obtain ⟨rfl, hX1, hF1⟩ := hp310
  have hM1 := hM.fx hF1
  refine V.aload_n (q := 314) dL_law_313 rfl rfl ?_
  refine V.aload_n (q := 315) dL_law_314 rfl rfl ?_
  refine V.iload_n (q := 316) dL_law_315 rfl rfl ?_
  refine V.iconst (q := 317) (v := nI 1) dL_law_316 rfl (by decide +kernel) ?_
  refine V.iaddN (q := 318) dL_law_317 rfl ?_
  refine V.sld (q := 319) hC (by omega) dL_law_318 rfl ?_
  refine V.aload_n (q := 320) dL_law_319 rfl rfl ?_
  refine V.iload_n (q := 321) dL_law_320 rfl rfl ?_
  refine V.iconst (q := 322) (v := nI 2) dL_law_321 rfl (by decide +kernel) ?_
  refine V.iaddN (q := 323) dL_law_322 rfl ?_
  refine V.sld (q := 324) hC (by omega) dL_law_323 rfl ?_
  refine V.cvi2 (q := 327) dL_law_324 rfl kc_L_39 rfl (by decide) rfl (hC.rm (by decide)) (Nat.le_of_ble_eq_true rfl) (m_hands hM1 (ys (i + 1)) (ys (i + 2))) (fun r324 τ324 hp324 => ?_)
  obtain ⟨rfl, hM2, hF2⟩ := hp324
  have hX2 := hX1.fm hF2
  exact V.icmp_eq (t := 901) (q := 330) dL_law_327 (by decide) rfl (fun _ => K _ (Iv.mk hX2 hM2)) (fun h9 => absurd rfl h9)
-- year
set_option maxHeartbeats 4000000 in
set_option maxRecDepth 100000 in
theorem l_year {x : Cx} {ys : Nat → Int32} {L : Nat} (hC : LC x ys L) {i : Nat} (hi : i + 4 ≤ L) {σ : Sg} {n y : Nat} {τ : Nat → Nat → Nat} {fl n2 y2 : Nat} {τ2 : Nat → Nat → Nat} {m : Nat} {cs : Nat → Nat} {rl : Nat} {ro rc : Nat → Nat} (hX : XR σ n y τ fl n2 y2 τ2 m cs rl ro rc) (hM : MR σ n y τ fl n2 y2 τ2 m cs rl ro rc) (K : ∀ σ1 : Sg, Iv σ1 → V x RL cL_law 4 901 [some (.ref 102), some (.ref 0), some (.ref 43), some (.int (nI i))] [] σ1) : V x RL cL_law 4 332 [some (.ref 102), some (.ref 0), some (.ref 43), some (.int (nI i))] [] σ := by
  refine V.aload_n (q := 333) dL_law_332 rfl rfl ?_
  refine V.cvi0 (q := 336) dL_law_333 rfl kc_L_40 rfl (by decide) rfl (hC.rm (by decide)) (Nat.le_of_ble_eq_true rfl) (p_year hX) (fun r333 τ333 hp333 => ?_)
  obtain ⟨rfl, hX1, hF1⟩ := hp333
  have hM1 := hM.fx hF1
  refine V.aload_n (q := 337) dL_law_336 rfl rfl ?_
  refine V.cvi0 (q := 340) dL_law_337 rfl kc_L_43 rfl (by decide) rfl (hC.rm (by decide)) (Nat.le_of_ble_eq_true rfl) (m_year hM1) (fun r337 τ337 hp337 => ?_)
  obtain ⟨rfl, hM2, hF2⟩ := hp337
  have hX2 := hX1.fm hF2
  exact V.icmp_eq (t := 901) (q := 343) dL_law_340 (by decide) rfl (fun _ => K _ (Iv.mk hX2 hM2)) (fun h9 => absurd rfl h9)
-- mud
set_option maxHeartbeats 4000000 in
set_option maxRecDepth 100000 in
theorem l_mud {x : Cx} {ys : Nat → Int32} {L : Nat} (hC : LC x ys L) {i : Nat} (hi : i + 4 ≤ L) {σ : Sg} {n y : Nat} {τ : Nat → Nat → Nat} {fl n2 y2 : Nat} {τ2 : Nat → Nat → Nat} {m : Nat} {cs : Nat → Nat} {rl : Nat} {ro rc : Nat → Nat} (hX : XR σ n y τ fl n2 y2 τ2 m cs rl ro rc) (hM : MR σ n y τ fl n2 y2 τ2 m cs rl ro rc) (K : ∀ σ1 : Sg, Iv σ1 → V x RL cL_law 4 901 [some (.ref 102), some (.ref 0), some (.ref 43), some (.int (nI i))] [] σ1) : V x RL cL_law 4 345 [some (.ref 102), some (.ref 0), some (.ref 43), some (.int (nI i))] [] σ := by
  refine V.aload_n (q := 346) dL_law_345 rfl rfl ?_
  refine V.aload_n (q := 347) dL_law_346 rfl rfl ?_
  refine V.iload_n (q := 348) dL_law_347 rfl rfl ?_
  refine V.iconst (q := 349) (v := nI 1) dL_law_348 rfl (by decide +kernel) ?_
  refine V.iaddN (q := 350) dL_law_349 rfl ?_
  refine V.sld (q := 351) hC (by omega) dL_law_350 rfl ?_
  refine V.aload_n (q := 352) dL_law_351 rfl rfl ?_
  refine V.iload_n (q := 353) dL_law_352 rfl rfl ?_
  refine V.iconst (q := 354) (v := nI 2) dL_law_353 rfl (by decide +kernel) ?_
  refine V.iaddN (q := 355) dL_law_354 rfl ?_
  refine V.sld (q := 356) hC (by omega) dL_law_355 rfl ?_
  refine V.cvi2 (q := 359) dL_law_356 rfl kc_L_44 rfl (by decide) rfl (hC.rm (by decide)) (Nat.le_of_ble_eq_true rfl) (p_mud hX (ys (i + 1)) (ys (i + 2))) (fun r356 τ356 hp356 => ?_)
  obtain ⟨rfl, hX1, hF1⟩ := hp356
  have hM1 := hM.fx hF1
  refine V.aload_n (q := 360) dL_law_359 rfl rfl ?_
  refine V.aload_n (q := 361) dL_law_360 rfl rfl ?_
  refine V.iload_n (q := 362) dL_law_361 rfl rfl ?_
  refine V.iconst (q := 363) (v := nI 1) dL_law_362 rfl (by decide +kernel) ?_
  refine V.iaddN (q := 364) dL_law_363 rfl ?_
  refine V.sld (q := 365) hC (by omega) dL_law_364 rfl ?_
  refine V.aload_n (q := 366) dL_law_365 rfl rfl ?_
  refine V.iload_n (q := 367) dL_law_366 rfl rfl ?_
  refine V.iconst (q := 368) (v := nI 2) dL_law_367 rfl (by decide +kernel) ?_
  refine V.iaddN (q := 369) dL_law_368 rfl ?_
  refine V.sld (q := 370) hC (by omega) dL_law_369 rfl ?_
  refine V.cvi2 (q := 373) dL_law_370 rfl kc_L_47 rfl (by decide) rfl (hC.rm (by decide)) (Nat.le_of_ble_eq_true rfl) (m_mud hM1 (ys (i + 1)) (ys (i + 2))) (fun r370 τ370 hp370 => ?_)
  obtain ⟨rfl, hM2, hF2⟩ := hp370
  have hX2 := hX1.fm hF2
  exact V.icmp_eq (t := 901) (q := 376) dL_law_373 (by decide) rfl (fun _ => K _ (Iv.mk hX2 hM2)) (fun h9 => absurd rfl h9)
-- worst
set_option maxHeartbeats 4000000 in
set_option maxRecDepth 100000 in
theorem l_worst {x : Cx} {ys : Nat → Int32} {L : Nat} (hC : LC x ys L) {i : Nat} (hi : i + 4 ≤ L) {σ : Sg} {n y : Nat} {τ : Nat → Nat → Nat} {fl n2 y2 : Nat} {τ2 : Nat → Nat → Nat} {m : Nat} {cs : Nat → Nat} {rl : Nat} {ro rc : Nat → Nat} (hX : XR σ n y τ fl n2 y2 τ2 m cs rl ro rc) (hM : MR σ n y τ fl n2 y2 τ2 m cs rl ro rc) (K : ∀ σ1 : Sg, Iv σ1 → V x RL cL_law 4 901 [some (.ref 102), some (.ref 0), some (.ref 43), some (.int (nI i))] [] σ1) : V x RL cL_law 4 378 [some (.ref 102), some (.ref 0), some (.ref 43), some (.int (nI i))] [] σ := by
  refine V.aload_n (q := 379) dL_law_378 rfl rfl ?_
  refine V.aload_n (q := 380) dL_law_379 rfl rfl ?_
  refine V.iload_n (q := 381) dL_law_380 rfl rfl ?_
  refine V.iconst (q := 382) (v := nI 1) dL_law_381 rfl (by decide +kernel) ?_
  refine V.iaddN (q := 383) dL_law_382 rfl ?_
  refine V.sld (q := 384) hC (by omega) dL_law_383 rfl ?_
  refine V.aload_n (q := 385) dL_law_384 rfl rfl ?_
  refine V.iload_n (q := 386) dL_law_385 rfl rfl ?_
  refine V.iconst (q := 387) (v := nI 2) dL_law_386 rfl (by decide +kernel) ?_
  refine V.iaddN (q := 388) dL_law_387 rfl ?_
  refine V.sld (q := 389) hC (by omega) dL_law_388 rfl ?_
  refine V.cvi2 (q := 392) dL_law_389 rfl kc_L_48 rfl (by decide) rfl (hC.rm (by decide)) (Nat.le_of_ble_eq_true rfl) (p_worst hX (ys (i + 1)) (ys (i + 2))) (fun r389 τ389 hp389 => ?_)
  obtain ⟨rfl, hX1, hF1⟩ := hp389
  have hM1 := hM.fx hF1
  refine V.aload_n (q := 393) dL_law_392 rfl rfl ?_
  refine V.aload_n (q := 394) dL_law_393 rfl rfl ?_
  refine V.iload_n (q := 395) dL_law_394 rfl rfl ?_
  refine V.iconst (q := 396) (v := nI 1) dL_law_395 rfl (by decide +kernel) ?_
  refine V.iaddN (q := 397) dL_law_396 rfl ?_
  refine V.sld (q := 398) hC (by omega) dL_law_397 rfl ?_
  refine V.aload_n (q := 399) dL_law_398 rfl rfl ?_
  refine V.iload_n (q := 400) dL_law_399 rfl rfl ?_
  refine V.iconst (q := 401) (v := nI 2) dL_law_400 rfl (by decide +kernel) ?_
  refine V.iaddN (q := 402) dL_law_401 rfl ?_
  refine V.sld (q := 403) hC (by omega) dL_law_402 rfl ?_
  refine V.cvi2 (q := 406) dL_law_403 rfl kc_L_51 rfl (by decide) rfl (hC.rm (by decide)) (Nat.le_of_ble_eq_true rfl) (m_worst hM1 (ys (i + 1)) (ys (i + 2))) (fun r403 τ403 hp403 => ?_)
  obtain ⟨rfl, hM2, hF2⟩ := hp403
  have hX2 := hX1.fm hF2
  exact V.icmp_eq (t := 901) (q := 409) dL_law_406 (by decide) rfl (fun _ => K _ (Iv.mk hX2 hM2)) (fun h9 => absurd rfl h9)
-- again
set_option maxHeartbeats 4000000 in
set_option maxRecDepth 100000 in
theorem l_again {x : Cx} {ys : Nat → Int32} {L : Nat} (hC : LC x ys L) {i : Nat} (hi : i + 4 ≤ L) {σ : Sg} {n y : Nat} {τ : Nat → Nat → Nat} {fl n2 y2 : Nat} {τ2 : Nat → Nat → Nat} {m : Nat} {cs : Nat → Nat} {rl : Nat} {ro rc : Nat → Nat} (hX : XR σ n y τ fl n2 y2 τ2 m cs rl ro rc) (hM : MR σ n y τ fl n2 y2 τ2 m cs rl ro rc) (K : ∀ σ1 : Sg, Iv σ1 → V x RL cL_law 4 901 [some (.ref 102), some (.ref 0), some (.ref 43), some (.int (nI i))] [] σ1) : V x RL cL_law 4 411 [some (.ref 102), some (.ref 0), some (.ref 43), some (.int (nI i))] [] σ := by
  refine V.aload_n (q := 412) dL_law_411 rfl rfl ?_
  refine V.cvi0 (q := 415) dL_law_412 rfl kc_L_52 rfl (by decide) rfl (hC.rm (by decide)) (Nat.le_of_ble_eq_true rfl) (p_again hX) (fun r412 τ412 hp412 => ?_)
  obtain ⟨rfl, hX1, hF1⟩ := hp412
  have hM1 := hM.fx hF1
  refine V.aload_n (q := 416) dL_law_415 rfl rfl ?_
  refine V.cvi0 (q := 419) dL_law_416 rfl kc_L_55 rfl (by decide) rfl (hC.rm (by decide)) (Nat.le_of_ble_eq_true rfl) (m_again hM1) (fun r416 τ416 hp416 => ?_)
  obtain ⟨rfl, hM2, hF2⟩ := hp416
  have hX2 := hX1.fm hF2
  exact V.icmp_eq (t := 901) (q := 422) dL_law_419 (by decide) rfl (fun _ => K _ (Iv.mk hX2 hM2)) (fun h9 => absurd rfl h9)
-- way
set_option maxHeartbeats 4000000 in
set_option maxRecDepth 100000 in
theorem l_way {x : Cx} {ys : Nat → Int32} {L : Nat} (hC : LC x ys L) {i : Nat} (hi : i + 4 ≤ L) {σ : Sg} {n y : Nat} {τ : Nat → Nat → Nat} {fl n2 y2 : Nat} {τ2 : Nat → Nat → Nat} {m : Nat} {cs : Nat → Nat} {rl : Nat} {ro rc : Nat → Nat} (hX : XR σ n y τ fl n2 y2 τ2 m cs rl ro rc) (hM : MR σ n y τ fl n2 y2 τ2 m cs rl ro rc) (K : ∀ σ1 : Sg, Iv σ1 → V x RL cL_law 4 901 [some (.ref 102), some (.ref 0), some (.ref 43), some (.int (nI i))] [] σ1) : V x RL cL_law 4 424 [some (.ref 102), some (.ref 0), some (.ref 43), some (.int (nI i))] [] σ := by
  refine V.aload_n (q := 425) dL_law_424 rfl rfl ?_
  refine V.aload_n (q := 426) dL_law_425 rfl rfl ?_
  refine V.iload_n (q := 427) dL_law_426 rfl rfl ?_
  refine V.iconst (q := 428) (v := nI 1) dL_law_427 rfl (by decide +kernel) ?_
  refine V.iaddN (q := 429) dL_law_428 rfl ?_
  refine V.sld (q := 430) hC (by omega) dL_law_429 rfl ?_
  refine V.aload_n (q := 431) dL_law_430 rfl rfl ?_
  refine V.iload_n (q := 432) dL_law_431 rfl rfl ?_
  refine V.iconst (q := 433) (v := nI 2) dL_law_432 rfl (by decide +kernel) ?_
  refine V.iaddN (q := 434) dL_law_433 rfl ?_
  refine V.sld (q := 435) hC (by omega) dL_law_434 rfl ?_
  refine V.cvi2 (q := 438) dL_law_435 rfl kc_L_56 rfl (by decide) rfl (hC.rm (by decide)) (Nat.le_of_ble_eq_true rfl) (p_way hX (ys (i + 1)) (ys (i + 2))) (fun r435 τ435 hp435 => ?_)
  obtain ⟨rfl, hX1, hF1⟩ := hp435
  have hM1 := hM.fx hF1
  refine V.aload_n (q := 439) dL_law_438 rfl rfl ?_
  refine V.aload_n (q := 440) dL_law_439 rfl rfl ?_
  refine V.iload_n (q := 441) dL_law_440 rfl rfl ?_
  refine V.iconst (q := 442) (v := nI 1) dL_law_441 rfl (by decide +kernel) ?_
  refine V.iaddN (q := 443) dL_law_442 rfl ?_
  refine V.sld (q := 444) hC (by omega) dL_law_443 rfl ?_
  refine V.aload_n (q := 445) dL_law_444 rfl rfl ?_
  refine V.iload_n (q := 446) dL_law_445 rfl rfl ?_
  refine V.iconst (q := 447) (v := nI 2) dL_law_446 rfl (by decide +kernel) ?_
  refine V.iaddN (q := 448) dL_law_447 rfl ?_
  refine V.sld (q := 449) hC (by omega) dL_law_448 rfl ?_
  refine V.cvi2 (q := 452) dL_law_449 rfl kc_L_59 rfl (by decide) rfl (hC.rm (by decide)) (Nat.le_of_ble_eq_true rfl) (m_way hM1 (ys (i + 1)) (ys (i + 2))) (fun r449 τ449 hp449 => ?_)
  obtain ⟨rfl, hM2, hF2⟩ := hp449
  have hX2 := hX1.fm hF2
  exact V.icmp_eq (t := 901) (q := 455) dL_law_452 (by decide) rfl (fun _ => K _ (Iv.mk hX2 hM2)) (fun h9 => absurd rfl h9)
-- ring
set_option maxHeartbeats 4000000 in
set_option maxRecDepth 100000 in
theorem l_ring {x : Cx} {ys : Nat → Int32} {L : Nat} (hC : LC x ys L) {i : Nat} (hi : i + 4 ≤ L) {σ : Sg} {n y : Nat} {τ : Nat → Nat → Nat} {fl n2 y2 : Nat} {τ2 : Nat → Nat → Nat} {m : Nat} {cs : Nat → Nat} {rl : Nat} {ro rc : Nat → Nat} (hX : XR σ n y τ fl n2 y2 τ2 m cs rl ro rc) (hM : MR σ n y τ fl n2 y2 τ2 m cs rl ro rc) (K : ∀ σ1 : Sg, Iv σ1 → V x RL cL_law 4 901 [some (.ref 102), some (.ref 0), some (.ref 43), some (.int (nI i))] [] σ1) : V x RL cL_law 4 457 [some (.ref 102), some (.ref 0), some (.ref 43), some (.int (nI i))] [] σ := by
  refine V.aload_n (q := 458) dL_law_457 rfl rfl ?_
  refine V.cvi0 (q := 461) dL_law_458 rfl kc_L_60 rfl (by decide) rfl (hC.rm (by decide)) (Nat.le_of_ble_eq_true rfl) (p_ring hX) (fun r458 τ458 hp458 => ?_)
  obtain ⟨rfl, hX1, hF1⟩ := hp458
  have hM1 := hM.fx hF1
  refine V.aload_n (q := 462) dL_law_461 rfl rfl ?_
  refine V.cvi0 (q := 465) dL_law_462 rfl kc_L_63 rfl (by decide) rfl (hC.rm (by decide)) (Nat.le_of_ble_eq_true rfl) (m_ring hM1) (fun r462 τ462 hp462 => ?_)
  obtain ⟨rfl, hM2, hF2⟩ := hp462
  have hX2 := hX1.fm hF2
  exact V.icmp_eq (t := 901) (q := 468) dL_law_465 (by decide) rfl (fun _ => K _ (Iv.mk hX2 hM2)) (fun h9 => absurd rfl h9)
-- tail
set_option maxHeartbeats 4000000 in
set_option maxRecDepth 100000 in
theorem l_tail {x : Cx} {ys : Nat → Int32} {L : Nat} (hC : LC x ys L) {i : Nat} (hi : i + 4 ≤ L) {σ : Sg} {n y : Nat} {τ : Nat → Nat → Nat} {fl n2 y2 : Nat} {τ2 : Nat → Nat → Nat} {m : Nat} {cs : Nat → Nat} {rl : Nat} {ro rc : Nat → Nat} (hX : XR σ n y τ fl n2 y2 τ2 m cs rl ro rc) (hM : MR σ n y τ fl n2 y2 τ2 m cs rl ro rc) (K : ∀ σ1 : Sg, Iv σ1 → V x RL cL_law 4 901 [some (.ref 102), some (.ref 0), some (.ref 43), some (.int (nI i))] [] σ1) : V x RL cL_law 4 470 [some (.ref 102), some (.ref 0), some (.ref 43), some (.int (nI i))] [] σ := by
  refine V.aload_n (q := 471) dL_law_470 rfl rfl ?_
  refine V.aload_n (q := 472) dL_law_471 rfl rfl ?_
  refine V.iload_n (q := 473) dL_law_472 rfl rfl ?_
  refine V.iconst (q := 474) (v := nI 1) dL_law_473 rfl (by decide +kernel) ?_
  refine V.iaddN (q := 475) dL_law_474 rfl ?_
  refine V.sld (q := 476) hC (by omega) dL_law_475 rfl ?_
  refine V.cvi1 (q := 479) dL_law_476 rfl kc_L_64 rfl (by decide) rfl (hC.rm (by decide)) (Nat.le_of_ble_eq_true rfl) (p_tail hX (ys (i + 1))) (fun r476 τ476 hp476 => ?_)
  obtain ⟨rfl, hX1, hF1⟩ := hp476
  have hM1 := hM.fx hF1
  refine V.aload_n (q := 480) dL_law_479 rfl rfl ?_
  refine V.aload_n (q := 481) dL_law_480 rfl rfl ?_
  refine V.iload_n (q := 482) dL_law_481 rfl rfl ?_
  refine V.iconst (q := 483) (v := nI 1) dL_law_482 rfl (by decide +kernel) ?_
  refine V.iaddN (q := 484) dL_law_483 rfl ?_
  refine V.sld (q := 485) hC (by omega) dL_law_484 rfl ?_
  refine V.cvi1 (q := 488) dL_law_485 rfl kc_L_67 rfl (by decide) rfl (hC.rm (by decide)) (Nat.le_of_ble_eq_true rfl) (m_tail hM1 (ys (i + 1))) (fun r485 τ485 hp485 => ?_)
  obtain ⟨rfl, hM2, hF2⟩ := hp485
  have hX2 := hX1.fm hF2
  exact V.icmp_eq (t := 901) (q := 491) dL_law_488 (by decide) rfl (fun _ => K _ (Iv.mk hX2 hM2)) (fun h9 => absurd rfl h9)
-- rings
set_option maxHeartbeats 4000000 in
set_option maxRecDepth 100000 in
theorem l_rings {x : Cx} {ys : Nat → Int32} {L : Nat} (hC : LC x ys L) {i : Nat} (hi : i + 4 ≤ L) {σ : Sg} {n y : Nat} {τ : Nat → Nat → Nat} {fl n2 y2 : Nat} {τ2 : Nat → Nat → Nat} {m : Nat} {cs : Nat → Nat} {rl : Nat} {ro rc : Nat → Nat} (hX : XR σ n y τ fl n2 y2 τ2 m cs rl ro rc) (hM : MR σ n y τ fl n2 y2 τ2 m cs rl ro rc) (K : ∀ σ1 : Sg, Iv σ1 → V x RL cL_law 4 901 [some (.ref 102), some (.ref 0), some (.ref 43), some (.int (nI i))] [] σ1) : V x RL cL_law 4 493 [some (.ref 102), some (.ref 0), some (.ref 43), some (.int (nI i))] [] σ := by
  refine V.aload_n (q := 494) dL_law_493 rfl rfl ?_
  refine V.cvi0 (q := 497) dL_law_494 rfl kc_L_68 rfl (by decide) rfl (hC.rm (by decide)) (Nat.le_of_ble_eq_true rfl) (p_rings hX) (fun r494 τ494 hp494 => ?_)
  obtain ⟨rfl, hX1, hF1⟩ := hp494
  have hM1 := hM.fx hF1
  refine V.aload_n (q := 498) dL_law_497 rfl rfl ?_
  refine V.cvi0 (q := 501) dL_law_498 rfl kc_L_71 rfl (by decide) rfl (hC.rm (by decide)) (Nat.le_of_ble_eq_true rfl) (m_rings hM1) (fun r498 τ498 hp498 => ?_)
  obtain ⟨rfl, hM2, hF2⟩ := hp498
  have hX2 := hX1.fm hF2
  exact V.icmp_eq (t := 901) (q := 504) dL_law_501 (by decide) rfl (fun _ => K _ (Iv.mk hX2 hM2)) (fun h9 => absurd rfl h9)
-- never
set_option maxHeartbeats 4000000 in
set_option maxRecDepth 100000 in
theorem l_never {x : Cx} {ys : Nat → Int32} {L : Nat} (hC : LC x ys L) {i : Nat} (hi : i + 4 ≤ L) {σ : Sg} {n y : Nat} {τ : Nat → Nat → Nat} {fl n2 y2 : Nat} {τ2 : Nat → Nat → Nat} {m : Nat} {cs : Nat → Nat} {rl : Nat} {ro rc : Nat → Nat} (hX : XR σ n y τ fl n2 y2 τ2 m cs rl ro rc) (hM : MR σ n y τ fl n2 y2 τ2 m cs rl ro rc) (K : ∀ σ1 : Sg, Iv σ1 → V x RL cL_law 4 901 [some (.ref 102), some (.ref 0), some (.ref 43), some (.int (nI i))] [] σ1) : V x RL cL_law 4 506 [some (.ref 102), some (.ref 0), some (.ref 43), some (.int (nI i))] [] σ := by
  refine V.aload_n (q := 507) dL_law_506 rfl rfl ?_
  refine V.cvi0 (q := 510) dL_law_507 rfl kc_L_72 rfl (by decide) rfl (hC.rm (by decide)) (Nat.le_of_ble_eq_true rfl) (p_never hX) (fun r507 τ507 hp507 => ?_)
  obtain ⟨rfl, hX1, hF1⟩ := hp507
  have hM1 := hM.fx hF1
  refine V.aload_n (q := 511) dL_law_510 rfl rfl ?_
  refine V.cvi0 (q := 514) dL_law_511 rfl kc_L_75 rfl (by decide) rfl (hC.rm (by decide)) (Nat.le_of_ble_eq_true rfl) (m_never hM1) (fun r511 τ511 hp511 => ?_)
  obtain ⟨rfl, hM2, hF2⟩ := hp511
  have hX2 := hX1.fm hF2
  exact V.icmp_eq (t := 901) (q := 517) dL_law_514 (by decide) rfl (fun _ => K _ (Iv.mk hX2 hM2)) (fun h9 => absurd rfl h9)
-- felt
set_option maxHeartbeats 4000000 in
set_option maxRecDepth 100000 in
theorem l_felt {x : Cx} {ys : Nat → Int32} {L : Nat} (hC : LC x ys L) {i : Nat} (hi : i + 4 ≤ L) {σ : Sg} {n y : Nat} {τ : Nat → Nat → Nat} {fl n2 y2 : Nat} {τ2 : Nat → Nat → Nat} {m : Nat} {cs : Nat → Nat} {rl : Nat} {ro rc : Nat → Nat} (hX : XR σ n y τ fl n2 y2 τ2 m cs rl ro rc) (hM : MR σ n y τ fl n2 y2 τ2 m cs rl ro rc) (K : ∀ σ1 : Sg, Iv σ1 → V x RL cL_law 4 901 [some (.ref 102), some (.ref 0), some (.ref 43), some (.int (nI i))] [] σ1) : V x RL cL_law 4 519 [some (.ref 102), some (.ref 0), some (.ref 43), some (.int (nI i))] [] σ := by
  refine V.aload_n (q := 520) dL_law_519 rfl rfl ?_
  refine V.aload_n (q := 521) dL_law_520 rfl rfl ?_
  refine V.iload_n (q := 522) dL_law_521 rfl rfl ?_
  refine V.iconst (q := 523) (v := nI 1) dL_law_522 rfl (by decide +kernel) ?_
  refine V.iaddN (q := 524) dL_law_523 rfl ?_
  refine V.sld (q := 525) hC (by omega) dL_law_524 rfl ?_
  refine V.aload_n (q := 526) dL_law_525 rfl rfl ?_
  refine V.iload_n (q := 527) dL_law_526 rfl rfl ?_
  refine V.iconst (q := 528) (v := nI 2) dL_law_527 rfl (by decide +kernel) ?_
  refine V.iaddN (q := 529) dL_law_528 rfl ?_
  refine V.sld (q := 530) hC (by omega) dL_law_529 rfl ?_
  refine V.cvi2 (q := 533) dL_law_530 rfl kc_L_76 rfl (by decide) rfl (hC.rm (by decide)) (Nat.le_of_ble_eq_true rfl) (p_felt hX (ys (i + 1)) (ys (i + 2))) (fun r530 τ530 hp530 => ?_)
  obtain ⟨rfl, hX1, hF1⟩ := hp530
  have hM1 := hM.fx hF1
  refine V.aload_n (q := 534) dL_law_533 rfl rfl ?_
  refine V.aload_n (q := 535) dL_law_534 rfl rfl ?_
  refine V.iload_n (q := 536) dL_law_535 rfl rfl ?_
  refine V.iconst (q := 537) (v := nI 1) dL_law_536 rfl (by decide +kernel) ?_
  refine V.iaddN (q := 538) dL_law_537 rfl ?_
  refine V.sld (q := 539) hC (by omega) dL_law_538 rfl ?_
  refine V.aload_n (q := 540) dL_law_539 rfl rfl ?_
  refine V.iload_n (q := 541) dL_law_540 rfl rfl ?_
  refine V.iconst (q := 542) (v := nI 2) dL_law_541 rfl (by decide +kernel) ?_
  refine V.iaddN (q := 543) dL_law_542 rfl ?_
  refine V.sld (q := 544) hC (by omega) dL_law_543 rfl ?_
  refine V.cvi2 (q := 547) dL_law_544 rfl kc_L_79 rfl (by decide) rfl (hC.rm (by decide)) (Nat.le_of_ble_eq_true rfl) (m_felt hM1 (ys (i + 1)) (ys (i + 2))) (fun r544 τ544 hp544 => ?_)
  obtain ⟨rfl, hM2, hF2⟩ := hp544
  have hX2 := hX1.fm hF2
  exact V.icmp_eq (t := 901) (q := 550) dL_law_547 (by decide) rfl (fun _ => K _ (Iv.mk hX2 hM2)) (fun h9 => absurd rfl h9)
-- worth
set_option maxHeartbeats 4000000 in
set_option maxRecDepth 100000 in
theorem l_worth {x : Cx} {ys : Nat → Int32} {L : Nat} (hC : LC x ys L) {i : Nat} (hi : i + 4 ≤ L) {σ : Sg} {n y : Nat} {τ : Nat → Nat → Nat} {fl n2 y2 : Nat} {τ2 : Nat → Nat → Nat} {m : Nat} {cs : Nat → Nat} {rl : Nat} {ro rc : Nat → Nat} (hX : XR σ n y τ fl n2 y2 τ2 m cs rl ro rc) (hM : MR σ n y τ fl n2 y2 τ2 m cs rl ro rc) (K : ∀ σ1 : Sg, Iv σ1 → V x RL cL_law 4 901 [some (.ref 102), some (.ref 0), some (.ref 43), some (.int (nI i))] [] σ1) : V x RL cL_law 4 552 [some (.ref 102), some (.ref 0), some (.ref 43), some (.int (nI i))] [] σ := by
  refine V.aload_n (q := 553) dL_law_552 rfl rfl ?_
  refine V.aload_n (q := 554) dL_law_553 rfl rfl ?_
  refine V.iload_n (q := 555) dL_law_554 rfl rfl ?_
  refine V.iconst (q := 556) (v := nI 1) dL_law_555 rfl (by decide +kernel) ?_
  refine V.iaddN (q := 557) dL_law_556 rfl ?_
  refine V.sld (q := 558) hC (by omega) dL_law_557 rfl ?_
  refine V.aload_n (q := 559) dL_law_558 rfl rfl ?_
  refine V.iload_n (q := 560) dL_law_559 rfl rfl ?_
  refine V.iconst (q := 561) (v := nI 2) dL_law_560 rfl (by decide +kernel) ?_
  refine V.iaddN (q := 562) dL_law_561 rfl ?_
  refine V.sld (q := 563) hC (by omega) dL_law_562 rfl ?_
  refine V.cvi2 (q := 566) dL_law_563 rfl kc_L_80 rfl (by decide) rfl (hC.rm (by decide)) (Nat.le_of_ble_eq_true rfl) (p_worth hX (ys (i + 1)) (ys (i + 2))) (fun r563 τ563 hp563 => ?_)
  obtain ⟨rfl, hX1, hF1⟩ := hp563
  have hM1 := hM.fx hF1
  refine V.aload_n (q := 567) dL_law_566 rfl rfl ?_
  refine V.aload_n (q := 568) dL_law_567 rfl rfl ?_
  refine V.iload_n (q := 569) dL_law_568 rfl rfl ?_
  refine V.iconst (q := 570) (v := nI 1) dL_law_569 rfl (by decide +kernel) ?_
  refine V.iaddN (q := 571) dL_law_570 rfl ?_
  refine V.sld (q := 572) hC (by omega) dL_law_571 rfl ?_
  refine V.aload_n (q := 573) dL_law_572 rfl rfl ?_
  refine V.iload_n (q := 574) dL_law_573 rfl rfl ?_
  refine V.iconst (q := 575) (v := nI 2) dL_law_574 rfl (by decide +kernel) ?_
  refine V.iaddN (q := 576) dL_law_575 rfl ?_
  refine V.sld (q := 577) hC (by omega) dL_law_576 rfl ?_
  refine V.cvi2 (q := 580) dL_law_577 rfl kc_L_83 rfl (by decide) rfl (hC.rm (by decide)) (Nat.le_of_ble_eq_true rfl) (m_worth hM1 (ys (i + 1)) (ys (i + 2))) (fun r577 τ577 hp577 => ?_)
  obtain ⟨rfl, hM2, hF2⟩ := hp577
  have hX2 := hX1.fm hF2
  exact V.icmp_eq (t := 901) (q := 583) dL_law_580 (by decide) rfl (fun _ => K _ (Iv.mk hX2 hM2)) (fun h9 => absurd rfl h9)
-- bestMap
set_option maxHeartbeats 4000000 in
set_option maxRecDepth 100000 in
theorem l_bestMap {x : Cx} {ys : Nat → Int32} {L : Nat} (hC : LC x ys L) {i : Nat} (hi : i + 4 ≤ L) {σ : Sg} {n y : Nat} {τ : Nat → Nat → Nat} {fl n2 y2 : Nat} {τ2 : Nat → Nat → Nat} {m : Nat} {cs : Nat → Nat} {rl : Nat} {ro rc : Nat → Nat} (hX : XR σ n y τ fl n2 y2 τ2 m cs rl ro rc) (hM : MR σ n y τ fl n2 y2 τ2 m cs rl ro rc) (K : ∀ σ1 : Sg, Iv σ1 → V x RL cL_law 4 901 [some (.ref 102), some (.ref 0), some (.ref 43), some (.int (nI i))] [] σ1) : V x RL cL_law 4 585 [some (.ref 102), some (.ref 0), some (.ref 43), some (.int (nI i))] [] σ := by
  refine V.aload_n (q := 586) dL_law_585 rfl rfl ?_
  refine V.aload_n (q := 587) dL_law_586 rfl rfl ?_
  refine V.iload_n (q := 588) dL_law_587 rfl rfl ?_
  refine V.iconst (q := 589) (v := nI 1) dL_law_588 rfl (by decide +kernel) ?_
  refine V.iaddN (q := 590) dL_law_589 rfl ?_
  refine V.sld (q := 591) hC (by omega) dL_law_590 rfl ?_
  refine V.aload_n (q := 592) dL_law_591 rfl rfl ?_
  refine V.iload_n (q := 593) dL_law_592 rfl rfl ?_
  refine V.iconst (q := 594) (v := nI 2) dL_law_593 rfl (by decide +kernel) ?_
  refine V.iaddN (q := 595) dL_law_594 rfl ?_
  refine V.sld (q := 596) hC (by omega) dL_law_595 rfl ?_
  refine V.cvi2 (q := 599) dL_law_596 rfl kc_L_84 rfl (by decide) rfl (hC.rm (by decide)) (Nat.le_of_ble_eq_true rfl) (p_best hX (ys (i + 1)) (ys (i + 2))) (fun r596 τ596 hp596 => ?_)
  obtain ⟨rfl, hX1, hF1⟩ := hp596
  have hM1 := hM.fx hF1
  refine V.aload_n (q := 600) dL_law_599 rfl rfl ?_
  refine V.aload_n (q := 601) dL_law_600 rfl rfl ?_
  refine V.iload_n (q := 602) dL_law_601 rfl rfl ?_
  refine V.iconst (q := 603) (v := nI 1) dL_law_602 rfl (by decide +kernel) ?_
  refine V.iaddN (q := 604) dL_law_603 rfl ?_
  refine V.sld (q := 605) hC (by omega) dL_law_604 rfl ?_
  refine V.aload_n (q := 606) dL_law_605 rfl rfl ?_
  refine V.iload_n (q := 607) dL_law_606 rfl rfl ?_
  refine V.iconst (q := 608) (v := nI 2) dL_law_607 rfl (by decide +kernel) ?_
  refine V.iaddN (q := 609) dL_law_608 rfl ?_
  refine V.sld (q := 610) hC (by omega) dL_law_609 rfl ?_
  refine V.cvi2 (q := 613) dL_law_610 rfl kc_L_87 rfl (by decide) rfl (hC.rm (by decide)) (Nat.le_of_ble_eq_true rfl) (m_best hM1 (ys (i + 1)) (ys (i + 2))) (fun r610 τ610 hp610 => ?_)
  obtain ⟨rfl, hM2, hF2⟩ := hp610
  have hX2 := hX1.fm hF2
  exact V.icmp_eq (t := 901) (q := 616) dL_law_613 (by decide) rfl (fun _ => K _ (Iv.mk hX2 hM2)) (fun h9 => absurd rfl h9)
-- change
set_option maxHeartbeats 4000000 in
set_option maxRecDepth 100000 in
theorem l_change {x : Cx} {ys : Nat → Int32} {L : Nat} (hC : LC x ys L) {i : Nat} (hi : i + 4 ≤ L) {σ : Sg} {n y : Nat} {τ : Nat → Nat → Nat} {fl n2 y2 : Nat} {τ2 : Nat → Nat → Nat} {m : Nat} {cs : Nat → Nat} {rl : Nat} {ro rc : Nat → Nat} (hX : XR σ n y τ fl n2 y2 τ2 m cs rl ro rc) (hM : MR σ n y τ fl n2 y2 τ2 m cs rl ro rc) (K : ∀ σ1 : Sg, Iv σ1 → V x RL cL_law 4 901 [some (.ref 102), some (.ref 0), some (.ref 43), some (.int (nI i))] [] σ1) : V x RL cL_law 4 618 [some (.ref 102), some (.ref 0), some (.ref 43), some (.int (nI i))] [] σ := by
  refine V.aload_n (q := 619) dL_law_618 rfl rfl ?_
  refine V.aload_n (q := 620) dL_law_619 rfl rfl ?_
  refine V.iload_n (q := 621) dL_law_620 rfl rfl ?_
  refine V.iconst (q := 622) (v := nI 1) dL_law_621 rfl (by decide +kernel) ?_
  refine V.iaddN (q := 623) dL_law_622 rfl ?_
  refine V.sld (q := 624) hC (by omega) dL_law_623 rfl ?_
  refine V.cvi1 (q := 627) dL_law_624 rfl kc_L_88 rfl (by decide) rfl (hC.rm (by decide)) (Nat.le_of_ble_eq_true rfl) (p_change hX (ys (i + 1))) (fun r624 τ624 hp624 => ?_)
  obtain ⟨rfl, hX1, hF1⟩ := hp624
  have hM1 := hM.fx hF1
  refine V.aload_n (q := 628) dL_law_627 rfl rfl ?_
  refine V.aload_n (q := 629) dL_law_628 rfl rfl ?_
  refine V.iload_n (q := 630) dL_law_629 rfl rfl ?_
  refine V.iconst (q := 631) (v := nI 1) dL_law_630 rfl (by decide +kernel) ?_
  refine V.iaddN (q := 632) dL_law_631 rfl ?_
  refine V.sld (q := 633) hC (by omega) dL_law_632 rfl ?_
  refine V.cvi1 (q := 636) dL_law_633 rfl kc_L_91 rfl (by decide) rfl (hC.rm (by decide)) (Nat.le_of_ble_eq_true rfl) (m_change hM1 (ys (i + 1))) (fun r633 τ633 hp633 => ?_)
  obtain ⟨rfl, hM2, hF2⟩ := hp633
  have hX2 := hX1.fm hF2
  exact V.icmp_eq (t := 901) (q := 639) dL_law_636 (by decide) rfl (fun _ => K _ (Iv.mk hX2 hM2)) (fun h9 => absurd rfl h9)
-- cure
set_option maxHeartbeats 4000000 in
set_option maxRecDepth 100000 in
theorem l_cure {x : Cx} {ys : Nat → Int32} {L : Nat} (hC : LC x ys L) {i : Nat} (hi : i + 4 ≤ L) {σ : Sg} {n y : Nat} {τ : Nat → Nat → Nat} {fl n2 y2 : Nat} {τ2 : Nat → Nat → Nat} {m : Nat} {cs : Nat → Nat} {rl : Nat} {ro rc : Nat → Nat} (hX : XR σ n y τ fl n2 y2 τ2 m cs rl ro rc) (hM : MR σ n y τ fl n2 y2 τ2 m cs rl ro rc) (K : ∀ σ1 : Sg, Iv σ1 → V x RL cL_law 4 901 [some (.ref 102), some (.ref 0), some (.ref 43), some (.int (nI i))] [] σ1) : V x RL cL_law 4 641 [some (.ref 102), some (.ref 0), some (.ref 43), some (.int (nI i))] [] σ := by
  refine V.aload_n (q := 642) dL_law_641 rfl rfl ?_
  refine V.aload_n (q := 643) dL_law_642 rfl rfl ?_
  refine V.iload_n (q := 644) dL_law_643 rfl rfl ?_
  refine V.iconst (q := 645) (v := nI 1) dL_law_644 rfl (by decide +kernel) ?_
  refine V.iaddN (q := 646) dL_law_645 rfl ?_
  refine V.sld (q := 647) hC (by omega) dL_law_646 rfl ?_
  refine V.aload_n (q := 648) dL_law_647 rfl rfl ?_
  refine V.iload_n (q := 649) dL_law_648 rfl rfl ?_
  refine V.iconst (q := 650) (v := nI 2) dL_law_649 rfl (by decide +kernel) ?_
  refine V.iaddN (q := 651) dL_law_650 rfl ?_
  refine V.sld (q := 652) hC (by omega) dL_law_651 rfl ?_
  refine V.cvi2 (q := 655) dL_law_652 rfl kc_L_92 rfl (by decide) rfl (hC.rm (by decide)) (Nat.le_of_ble_eq_true rfl) (p_cure hX (ys (i + 1)) (ys (i + 2))) (fun r652 τ652 hp652 => ?_)
  obtain ⟨rfl, hX1, hF1⟩ := hp652
  have hM1 := hM.fx hF1
  refine V.aload_n (q := 656) dL_law_655 rfl rfl ?_
  refine V.aload_n (q := 657) dL_law_656 rfl rfl ?_
  refine V.iload_n (q := 658) dL_law_657 rfl rfl ?_
  refine V.iconst (q := 659) (v := nI 1) dL_law_658 rfl (by decide +kernel) ?_
  refine V.iaddN (q := 660) dL_law_659 rfl ?_
  refine V.sld (q := 661) hC (by omega) dL_law_660 rfl ?_
  refine V.aload_n (q := 662) dL_law_661 rfl rfl ?_
  refine V.iload_n (q := 663) dL_law_662 rfl rfl ?_
  refine V.iconst (q := 664) (v := nI 2) dL_law_663 rfl (by decide +kernel) ?_
  refine V.iaddN (q := 665) dL_law_664 rfl ?_
  refine V.sld (q := 666) hC (by omega) dL_law_665 rfl ?_
  refine V.cvi2 (q := 669) dL_law_666 rfl kc_L_95 rfl (by decide) rfl (hC.rm (by decide)) (Nat.le_of_ble_eq_true rfl) (m_cure hM1 (ys (i + 1)) (ys (i + 2))) (fun r666 τ666 hp666 => ?_)
  obtain ⟨rfl, hM2, hF2⟩ := hp666
  have hX2 := hX1.fm hF2
  exact V.icmp_eq (t := 901) (q := 672) dL_law_669 (by decide) rfl (fun _ => K _ (Iv.mk hX2 hM2)) (fun h9 => absurd rfl h9)
-- putIn
set_option maxHeartbeats 4000000 in
set_option maxRecDepth 100000 in
theorem l_putIn {x : Cx} {ys : Nat → Int32} {L : Nat} (hC : LC x ys L) {i : Nat} (hi : i + 4 ≤ L) {σ : Sg} {n y : Nat} {τ : Nat → Nat → Nat} {fl n2 y2 : Nat} {τ2 : Nat → Nat → Nat} {m : Nat} {cs : Nat → Nat} {rl : Nat} {ro rc : Nat → Nat} (hX : XR σ n y τ fl n2 y2 τ2 m cs rl ro rc) (hM : MR σ n y τ fl n2 y2 τ2 m cs rl ro rc) (K : ∀ σ1 : Sg, Iv σ1 → V x RL cL_law 4 901 [some (.ref 102), some (.ref 0), some (.ref 43), some (.int (nI i))] [] σ1) : V x RL cL_law 4 674 [some (.ref 102), some (.ref 0), some (.ref 43), some (.int (nI i))] [] σ := by
  refine V.aload_n (q := 675) dL_law_674 rfl rfl ?_
  refine V.aload_n (q := 676) dL_law_675 rfl rfl ?_
  refine V.iload_n (q := 677) dL_law_676 rfl rfl ?_
  refine V.iconst (q := 678) (v := nI 1) dL_law_677 rfl (by decide +kernel) ?_
  refine V.iaddN (q := 679) dL_law_678 rfl ?_
  refine V.sld (q := 680) hC (by omega) dL_law_679 rfl ?_
  refine V.aload_n (q := 681) dL_law_680 rfl rfl ?_
  refine V.iload_n (q := 682) dL_law_681 rfl rfl ?_
  refine V.iconst (q := 683) (v := nI 2) dL_law_682 rfl (by decide +kernel) ?_
  refine V.iaddN (q := 684) dL_law_683 rfl ?_
  refine V.sld (q := 685) hC (by omega) dL_law_684 rfl ?_
  refine V.aload_n (q := 686) dL_law_685 rfl rfl ?_
  refine V.iload_n (q := 687) dL_law_686 rfl rfl ?_
  refine V.iconst (q := 688) (v := nI 3) dL_law_687 rfl (by decide +kernel) ?_
  refine V.iaddN (q := 689) dL_law_688 rfl ?_
  refine V.sld (q := 690) hC (by omega) dL_law_689 rfl ?_
  refine V.cvi3 (q := 693) dL_law_690 rfl kc_L_96 rfl (by decide) rfl (hC.rm (by decide)) (Nat.le_of_ble_eq_true rfl) (p_putIn hX (ys (i + 1)) (ys (i + 2)) (ys (i + 3))) (fun r690 τ690 hp690 => ?_)
  obtain ⟨rfl, hX1, hF1⟩ := hp690
  have hM1 := hM.fx hF1
  refine V.aload_n (q := 694) dL_law_693 rfl rfl ?_
  refine V.aload_n (q := 695) dL_law_694 rfl rfl ?_
  refine V.iload_n (q := 696) dL_law_695 rfl rfl ?_
  refine V.iconst (q := 697) (v := nI 1) dL_law_696 rfl (by decide +kernel) ?_
  refine V.iaddN (q := 698) dL_law_697 rfl ?_
  refine V.sld (q := 699) hC (by omega) dL_law_698 rfl ?_
  refine V.aload_n (q := 700) dL_law_699 rfl rfl ?_
  refine V.iload_n (q := 701) dL_law_700 rfl rfl ?_
  refine V.iconst (q := 702) (v := nI 2) dL_law_701 rfl (by decide +kernel) ?_
  refine V.iaddN (q := 703) dL_law_702 rfl ?_
  refine V.sld (q := 704) hC (by omega) dL_law_703 rfl ?_
  refine V.aload_n (q := 705) dL_law_704 rfl rfl ?_
  refine V.iload_n (q := 706) dL_law_705 rfl rfl ?_
  refine V.iconst (q := 707) (v := nI 3) dL_law_706 rfl (by decide +kernel) ?_
  refine V.iaddN (q := 708) dL_law_707 rfl ?_
  refine V.sld (q := 709) hC (by omega) dL_law_708 rfl ?_
  refine V.cvi3 (q := 712) dL_law_709 rfl kc_L_100 rfl (by decide) rfl (hC.rm (by decide)) (Nat.le_of_ble_eq_true rfl) (m_putIn hM1 (ys (i + 1)) (ys (i + 2)) (ys (i + 3))) (fun r709 τ709 hp709 => ?_)
  obtain ⟨rfl, hM2, hF2⟩ := hp709
  have hX2 := hX1.fm hF2
  exact V.icmp_eq (t := 901) (q := 715) dL_law_712 (by decide) rfl (fun _ => K _ (Iv.mk hX2 hM2)) (fun h9 => absurd rfl h9)
-- takeOut
set_option maxHeartbeats 4000000 in
set_option maxRecDepth 100000 in
theorem l_takeOut {x : Cx} {ys : Nat → Int32} {L : Nat} (hC : LC x ys L) {i : Nat} (hi : i + 4 ≤ L) {σ : Sg} {n y : Nat} {τ : Nat → Nat → Nat} {fl n2 y2 : Nat} {τ2 : Nat → Nat → Nat} {m : Nat} {cs : Nat → Nat} {rl : Nat} {ro rc : Nat → Nat} (hX : XR σ n y τ fl n2 y2 τ2 m cs rl ro rc) (hM : MR σ n y τ fl n2 y2 τ2 m cs rl ro rc) (K : ∀ σ1 : Sg, Iv σ1 → V x RL cL_law 4 901 [some (.ref 102), some (.ref 0), some (.ref 43), some (.int (nI i))] [] σ1) : V x RL cL_law 4 717 [some (.ref 102), some (.ref 0), some (.ref 43), some (.int (nI i))] [] σ := by
  refine V.aload_n (q := 718) dL_law_717 rfl rfl ?_
  refine V.aload_n (q := 719) dL_law_718 rfl rfl ?_
  refine V.iload_n (q := 720) dL_law_719 rfl rfl ?_
  refine V.iconst (q := 721) (v := nI 1) dL_law_720 rfl (by decide +kernel) ?_
  refine V.iaddN (q := 722) dL_law_721 rfl ?_
  refine V.sld (q := 723) hC (by omega) dL_law_722 rfl ?_
  refine V.aload_n (q := 724) dL_law_723 rfl rfl ?_
  refine V.iload_n (q := 725) dL_law_724 rfl rfl ?_
  refine V.iconst (q := 726) (v := nI 2) dL_law_725 rfl (by decide +kernel) ?_
  refine V.iaddN (q := 727) dL_law_726 rfl ?_
  refine V.sld (q := 728) hC (by omega) dL_law_727 rfl ?_
  refine V.cvi2 (q := 731) dL_law_728 rfl kc_L_101 rfl (by decide) rfl (hC.rm (by decide)) (Nat.le_of_ble_eq_true rfl) (p_takeOut hX (ys (i + 1)) (ys (i + 2))) (fun r728 τ728 hp728 => ?_)
  obtain ⟨rfl, hX1, hF1⟩ := hp728
  have hM1 := hM.fx hF1
  refine V.aload_n (q := 732) dL_law_731 rfl rfl ?_
  refine V.aload_n (q := 733) dL_law_732 rfl rfl ?_
  refine V.iload_n (q := 734) dL_law_733 rfl rfl ?_
  refine V.iconst (q := 735) (v := nI 1) dL_law_734 rfl (by decide +kernel) ?_
  refine V.iaddN (q := 736) dL_law_735 rfl ?_
  refine V.sld (q := 737) hC (by omega) dL_law_736 rfl ?_
  refine V.aload_n (q := 738) dL_law_737 rfl rfl ?_
  refine V.iload_n (q := 739) dL_law_738 rfl rfl ?_
  refine V.iconst (q := 740) (v := nI 2) dL_law_739 rfl (by decide +kernel) ?_
  refine V.iaddN (q := 741) dL_law_740 rfl ?_
  refine V.sld (q := 742) hC (by omega) dL_law_741 rfl ?_
  refine V.cvi2 (q := 745) dL_law_742 rfl kc_L_104 rfl (by decide) rfl (hC.rm (by decide)) (Nat.le_of_ble_eq_true rfl) (m_takeOut hM1 (ys (i + 1)) (ys (i + 2))) (fun r742 τ742 hp742 => ?_)
  obtain ⟨rfl, hM2, hF2⟩ := hp742
  have hX2 := hX1.fm hF2
  exact V.icmp_eq (t := 901) (q := 748) dL_law_745 (by decide) rfl (fun _ => K _ (Iv.mk hX2 hM2)) (fun h9 => absurd rfl h9)
-- row
set_option maxHeartbeats 4000000 in
set_option maxRecDepth 100000 in
theorem l_row {x : Cx} {ys : Nat → Int32} {L : Nat} (hC : LC x ys L) {i : Nat} (hi : i + 4 ≤ L) {σ : Sg} {n y : Nat} {τ : Nat → Nat → Nat} {fl n2 y2 : Nat} {τ2 : Nat → Nat → Nat} {m : Nat} {cs : Nat → Nat} {rl : Nat} {ro rc : Nat → Nat} (hX : XR σ n y τ fl n2 y2 τ2 m cs rl ro rc) (hM : MR σ n y τ fl n2 y2 τ2 m cs rl ro rc) (K : ∀ σ1 : Sg, Iv σ1 → V x RL cL_law 4 901 [some (.ref 102), some (.ref 0), some (.ref 43), some (.int (nI i))] [] σ1) : V x RL cL_law 4 750 [some (.ref 102), some (.ref 0), some (.ref 43), some (.int (nI i))] [] σ := by
  refine V.aload_n (q := 751) dL_law_750 rfl rfl ?_
  refine V.aload_n (q := 752) dL_law_751 rfl rfl ?_
  refine V.iload_n (q := 753) dL_law_752 rfl rfl ?_
  refine V.iconst (q := 754) (v := nI 1) dL_law_753 rfl (by decide +kernel) ?_
  refine V.iaddN (q := 755) dL_law_754 rfl ?_
  refine V.sld (q := 756) hC (by omega) dL_law_755 rfl ?_
  refine V.cvi1 (q := 759) dL_law_756 rfl kc_L_105 rfl (by decide) rfl (hC.rm (by decide)) (Nat.le_of_ble_eq_true rfl) (p_row hX (ys (i + 1))) (fun r756 τ756 hp756 => ?_)
  obtain ⟨rfl, hX1, hF1⟩ := hp756
  have hM1 := hM.fx hF1
  refine V.aload_n (q := 760) dL_law_759 rfl rfl ?_
  refine V.aload_n (q := 761) dL_law_760 rfl rfl ?_
  refine V.iload_n (q := 762) dL_law_761 rfl rfl ?_
  refine V.iconst (q := 763) (v := nI 1) dL_law_762 rfl (by decide +kernel) ?_
  refine V.iaddN (q := 764) dL_law_763 rfl ?_
  refine V.sld (q := 765) hC (by omega) dL_law_764 rfl ?_
  refine V.cvi1 (q := 768) dL_law_765 rfl kc_L_108 rfl (by decide) rfl (hC.rm (by decide)) (Nat.le_of_ble_eq_true rfl) (m_row hM1 (ys (i + 1))) (fun r765 τ765 hp765 => ?_)
  obtain ⟨rfl, hM2, hF2⟩ := hp765
  have hX2 := hX1.fm hF2
  exact V.icmp_eq (t := 901) (q := 771) dL_law_768 (by decide) rfl (fun _ => K _ (Iv.mk hX2 hM2)) (fun h9 => absurd rfl h9)
-- fitting
set_option maxHeartbeats 4000000 in
set_option maxRecDepth 100000 in
theorem l_fitting {x : Cx} {ys : Nat → Int32} {L : Nat} (hC : LC x ys L) {i : Nat} (hi : i + 4 ≤ L) {σ : Sg} {n y : Nat} {τ : Nat → Nat → Nat} {fl n2 y2 : Nat} {τ2 : Nat → Nat → Nat} {m : Nat} {cs : Nat → Nat} {rl : Nat} {ro rc : Nat → Nat} (hX : XR σ n y τ fl n2 y2 τ2 m cs rl ro rc) (hM : MR σ n y τ fl n2 y2 τ2 m cs rl ro rc) (K : ∀ σ1 : Sg, Iv σ1 → V x RL cL_law 4 901 [some (.ref 102), some (.ref 0), some (.ref 43), some (.int (nI i))] [] σ1) : V x RL cL_law 4 773 [some (.ref 102), some (.ref 0), some (.ref 43), some (.int (nI i))] [] σ := by
  refine V.aload_n (q := 774) dL_law_773 rfl rfl ?_
  refine V.aload_n (q := 775) dL_law_774 rfl rfl ?_
  refine V.iload_n (q := 776) dL_law_775 rfl rfl ?_
  refine V.iconst (q := 777) (v := nI 1) dL_law_776 rfl (by decide +kernel) ?_
  refine V.iaddN (q := 778) dL_law_777 rfl ?_
  refine V.sld (q := 779) hC (by omega) dL_law_778 rfl ?_
  refine V.aload_n (q := 780) dL_law_779 rfl rfl ?_
  refine V.iload_n (q := 781) dL_law_780 rfl rfl ?_
  refine V.iconst (q := 782) (v := nI 2) dL_law_781 rfl (by decide +kernel) ?_
  refine V.iaddN (q := 783) dL_law_782 rfl ?_
  refine V.sld (q := 784) hC (by omega) dL_law_783 rfl ?_
  refine V.cvi2 (q := 787) dL_law_784 rfl kc_L_109 rfl (by decide) rfl (hC.rm (by decide)) (Nat.le_of_ble_eq_true rfl) (p_fitting hX (ys (i + 1)) (ys (i + 2))) (fun r784 τ784 hp784 => ?_)
  obtain ⟨rfl, hX1, hF1⟩ := hp784
  have hM1 := hM.fx hF1
  refine V.aload_n (q := 788) dL_law_787 rfl rfl ?_
  refine V.aload_n (q := 789) dL_law_788 rfl rfl ?_
  refine V.iload_n (q := 790) dL_law_789 rfl rfl ?_
  refine V.iconst (q := 791) (v := nI 1) dL_law_790 rfl (by decide +kernel) ?_
  refine V.iaddN (q := 792) dL_law_791 rfl ?_
  refine V.sld (q := 793) hC (by omega) dL_law_792 rfl ?_
  refine V.aload_n (q := 794) dL_law_793 rfl rfl ?_
  refine V.iload_n (q := 795) dL_law_794 rfl rfl ?_
  refine V.iconst (q := 796) (v := nI 2) dL_law_795 rfl (by decide +kernel) ?_
  refine V.iaddN (q := 797) dL_law_796 rfl ?_
  refine V.sld (q := 798) hC (by omega) dL_law_797 rfl ?_
  refine V.cvi2 (q := 801) dL_law_798 rfl kc_L_112 rfl (by decide) rfl (hC.rm (by decide)) (Nat.le_of_ble_eq_true rfl) (m_fitting hM1 (ys (i + 1)) (ys (i + 2))) (fun r798 τ798 hp798 => ?_)
  obtain ⟨rfl, hM2, hF2⟩ := hp798
  have hX2 := hX1.fm hF2
  exact V.icmp_eq (t := 901) (q := 804) dL_law_801 (by decide) rfl (fun _ => K _ (Iv.mk hX2 hM2)) (fun h9 => absurd rfl h9)
-- judge
set_option maxHeartbeats 4000000 in
set_option maxRecDepth 100000 in
theorem l_judge {x : Cx} {ys : Nat → Int32} {L : Nat} (hC : LC x ys L) {i : Nat} (hi : i + 4 ≤ L) {σ : Sg} {n y : Nat} {τ : Nat → Nat → Nat} {fl n2 y2 : Nat} {τ2 : Nat → Nat → Nat} {m : Nat} {cs : Nat → Nat} {rl : Nat} {ro rc : Nat → Nat} (hX : XR σ n y τ fl n2 y2 τ2 m cs rl ro rc) (hM : MR σ n y τ fl n2 y2 τ2 m cs rl ro rc) (K : ∀ σ1 : Sg, Iv σ1 → V x RL cL_law 4 901 [some (.ref 102), some (.ref 0), some (.ref 43), some (.int (nI i))] [] σ1) : V x RL cL_law 4 806 [some (.ref 102), some (.ref 0), some (.ref 43), some (.int (nI i))] [] σ := by
  refine V.aload_n (q := 807) dL_law_806 rfl rfl ?_
  refine V.cvi0 (q := 810) dL_law_807 rfl kc_L_113 rfl (by decide) rfl (hC.rm (by decide)) (Nat.le_of_ble_eq_true rfl) (p_judge hX) (fun r807 τ807 hp807 => ?_)
  obtain ⟨rfl, hX1, hF1⟩ := hp807
  have hM1 := hM.fx hF1
  refine V.aload_n (q := 811) dL_law_810 rfl rfl ?_
  refine V.cvi0 (q := 814) dL_law_811 rfl kc_L_116 rfl (by decide) rfl (hC.rm (by decide)) (Nat.le_of_ble_eq_true rfl) (m_judge hM1) (fun r811 τ811 hp811 => ?_)
  obtain ⟨rfl, hM2, hF2⟩ := hp811
  have hX2 := hX1.fm hF2
  exact V.icmp_eq (t := 901) (q := 817) dL_law_814 (by decide) rfl (fun _ => K _ (Iv.mk hX2 hM2)) (fun h9 => absurd rfl h9)
-- seeds
set_option maxHeartbeats 4000000 in
set_option maxRecDepth 100000 in
theorem l_seeds {x : Cx} {ys : Nat → Int32} {L : Nat} (hC : LC x ys L) {i : Nat} (hi : i + 4 ≤ L) {σ : Sg} {n y : Nat} {τ : Nat → Nat → Nat} {fl n2 y2 : Nat} {τ2 : Nat → Nat → Nat} {m : Nat} {cs : Nat → Nat} {rl : Nat} {ro rc : Nat → Nat} (hX : XR σ n y τ fl n2 y2 τ2 m cs rl ro rc) (hM : MR σ n y τ fl n2 y2 τ2 m cs rl ro rc) (K : ∀ σ1 : Sg, Iv σ1 → V x RL cL_law 4 901 [some (.ref 102), some (.ref 0), some (.ref 43), some (.int (nI i))] [] σ1) : V x RL cL_law 4 819 [some (.ref 102), some (.ref 0), some (.ref 43), some (.int (nI i))] [] σ := by
  refine V.aload_n (q := 820) dL_law_819 rfl rfl ?_
  refine V.aload_n (q := 821) dL_law_820 rfl rfl ?_
  refine V.iload_n (q := 822) dL_law_821 rfl rfl ?_
  refine V.iconst (q := 823) (v := nI 1) dL_law_822 rfl (by decide +kernel) ?_
  refine V.iaddN (q := 824) dL_law_823 rfl ?_
  refine V.sld (q := 825) hC (by omega) dL_law_824 rfl ?_
  refine V.aload_n (q := 826) dL_law_825 rfl rfl ?_
  refine V.iload_n (q := 827) dL_law_826 rfl rfl ?_
  refine V.iconst (q := 828) (v := nI 2) dL_law_827 rfl (by decide +kernel) ?_
  refine V.iaddN (q := 829) dL_law_828 rfl ?_
  refine V.sld (q := 830) hC (by omega) dL_law_829 rfl ?_
  refine V.cvi2 (q := 833) dL_law_830 rfl kc_L_117 rfl (by decide) rfl (hC.rm (by decide)) (Nat.le_of_ble_eq_true rfl) (p_seeds hX (ys (i + 1)) (ys (i + 2))) (fun r830 τ830 hp830 => ?_)
  obtain ⟨rfl, hX1, hF1⟩ := hp830
  have hM1 := hM.fx hF1
  refine V.aload_n (q := 834) dL_law_833 rfl rfl ?_
  refine V.aload_n (q := 835) dL_law_834 rfl rfl ?_
  refine V.iload_n (q := 836) dL_law_835 rfl rfl ?_
  refine V.iconst (q := 837) (v := nI 1) dL_law_836 rfl (by decide +kernel) ?_
  refine V.iaddN (q := 838) dL_law_837 rfl ?_
  refine V.sld (q := 839) hC (by omega) dL_law_838 rfl ?_
  refine V.aload_n (q := 840) dL_law_839 rfl rfl ?_
  refine V.iload_n (q := 841) dL_law_840 rfl rfl ?_
  refine V.iconst (q := 842) (v := nI 2) dL_law_841 rfl (by decide +kernel) ?_
  refine V.iaddN (q := 843) dL_law_842 rfl ?_
  refine V.sld (q := 844) hC (by omega) dL_law_843 rfl ?_
  refine V.cvi2 (q := 847) dL_law_844 rfl kc_L_120 rfl (by decide) rfl (hC.rm (by decide)) (Nat.le_of_ble_eq_true rfl) (m_seeds hM1 (ys (i + 1)) (ys (i + 2))) (fun r844 τ844 hp844 => ?_)
  obtain ⟨rfl, hM2, hF2⟩ := hp844
  have hX2 := hX1.fm hF2
  exact V.icmp_eq (t := 901) (q := 850) dL_law_847 (by decide) rfl (fun _ => K _ (Iv.mk hX2 hM2)) (fun h9 => absurd rfl h9)
-- image
set_option maxHeartbeats 4000000 in
set_option maxRecDepth 100000 in
theorem l_image {x : Cx} {ys : Nat → Int32} {L : Nat} (hC : LC x ys L) {i : Nat} (hi : i + 4 ≤ L) {σ : Sg} {n y : Nat} {τ : Nat → Nat → Nat} {fl n2 y2 : Nat} {τ2 : Nat → Nat → Nat} {m : Nat} {cs : Nat → Nat} {rl : Nat} {ro rc : Nat → Nat} (hX : XR σ n y τ fl n2 y2 τ2 m cs rl ro rc) (hM : MR σ n y τ fl n2 y2 τ2 m cs rl ro rc) (K : ∀ σ1 : Sg, Iv σ1 → V x RL cL_law 4 901 [some (.ref 102), some (.ref 0), some (.ref 43), some (.int (nI i))] [] σ1) : V x RL cL_law 4 852 [some (.ref 102), some (.ref 0), some (.ref 43), some (.int (nI i))] [] σ := by
  refine V.aload_n (q := 853) dL_law_852 rfl rfl ?_
  refine V.cvi0 (q := 856) dL_law_853 rfl kc_L_121 rfl (by decide) rfl (hC.rm (by decide)) (Nat.le_of_ble_eq_true rfl) (p_image hX) (fun r853 τ853 hp853 => ?_)
  obtain ⟨rfl, hX1, hF1⟩ := hp853
  have hM1 := hM.fx hF1
  refine V.aload_n (q := 857) dL_law_856 rfl rfl ?_
  refine V.cvi0 (q := 860) dL_law_857 rfl kc_L_124 rfl (by decide) rfl (hC.rm (by decide)) (Nat.le_of_ble_eq_true rfl) (m_image hM1) (fun r857 τ857 hp857 => ?_)
  obtain ⟨rfl, hM2, hF2⟩ := hp857
  have hX2 := hX1.fm hF2
  exact V.icmp_eq (t := 901) (q := 863) dL_law_860 (by decide) rfl (fun _ => K _ (Iv.mk hX2 hM2)) (fun h9 => absurd rfl h9)
-- on
set_option maxHeartbeats 4000000 in
set_option maxRecDepth 100000 in
theorem l_on {x : Cx} {ys : Nat → Int32} {L : Nat} (hC : LC x ys L) {i : Nat} (hi : i + 4 ≤ L) {σ : Sg} {n y : Nat} {τ : Nat → Nat → Nat} {fl n2 y2 : Nat} {τ2 : Nat → Nat → Nat} {m : Nat} {cs : Nat → Nat} {rl : Nat} {ro rc : Nat → Nat} (hX : XR σ n y τ fl n2 y2 τ2 m cs rl ro rc) (hM : MR σ n y τ fl n2 y2 τ2 m cs rl ro rc) (K : ∀ σ1 : Sg, Iv σ1 → V x RL cL_law 4 901 [some (.ref 102), some (.ref 0), some (.ref 43), some (.int (nI i))] [] σ1) : V x RL cL_law 4 865 [some (.ref 102), some (.ref 0), some (.ref 43), some (.int (nI i))] [] σ := by
  refine V.aload_n (q := 866) dL_law_865 rfl rfl ?_
  refine V.cvi0 (q := 869) dL_law_866 rfl kc_L_125 rfl (by decide) rfl (hC.rm (by decide)) (Nat.le_of_ble_eq_true rfl) (p_on hX) (fun r866 τ866 hp866 => ?_)
  obtain ⟨rfl, hX1, hF1⟩ := hp866
  have hM1 := hM.fx hF1
  refine V.aload_n (q := 870) dL_law_869 rfl rfl ?_
  refine V.cvi0 (q := 873) dL_law_870 rfl kc_L_128 rfl (by decide) rfl (hC.rm (by decide)) (Nat.le_of_ble_eq_true rfl) (m_on hM1) (fun r870 τ870 hp870 => ?_)
  obtain ⟨rfl, hM2, hF2⟩ := hp870
  have hX2 := hX1.fm hF2
  exact V.icmp_eq (t := 901) (q := 876) dL_law_873 (by decide) rfl (fun _ => K _ (Iv.mk hX2 hM2)) (fun h9 => absurd rfl h9)
-- count
set_option maxHeartbeats 4000000 in
set_option maxRecDepth 100000 in
theorem l_count {x : Cx} {ys : Nat → Int32} {L : Nat} (hC : LC x ys L) {i : Nat} (hi : i + 4 ≤ L) {σ : Sg} {n y : Nat} {τ : Nat → Nat → Nat} {fl n2 y2 : Nat} {τ2 : Nat → Nat → Nat} {m : Nat} {cs : Nat → Nat} {rl : Nat} {ro rc : Nat → Nat} (hX : XR σ n y τ fl n2 y2 τ2 m cs rl ro rc) (hM : MR σ n y τ fl n2 y2 τ2 m cs rl ro rc) (K : ∀ σ1 : Sg, Iv σ1 → V x RL cL_law 4 901 [some (.ref 102), some (.ref 0), some (.ref 43), some (.int (nI i))] [] σ1) : V x RL cL_law 4 878 [some (.ref 102), some (.ref 0), some (.ref 43), some (.int (nI i))] [] σ := by
  refine V.aload_n (q := 879) dL_law_878 rfl rfl ?_
  refine V.aload_n (q := 880) dL_law_879 rfl rfl ?_
  refine V.iload_n (q := 881) dL_law_880 rfl rfl ?_
  refine V.iconst (q := 882) (v := nI 1) dL_law_881 rfl (by decide +kernel) ?_
  refine V.iaddN (q := 883) dL_law_882 rfl ?_
  refine V.sld (q := 884) hC (by omega) dL_law_883 rfl ?_
  refine V.cvi1 (q := 887) dL_law_884 rfl kc_L_129 rfl (by decide) rfl (hC.rm (by decide)) (Nat.le_of_ble_eq_true rfl) (p_count hX (ys (i + 1))) (fun r884 τ884 hp884 => ?_)
  obtain ⟨rfl, hX1, hF1⟩ := hp884
  have hM1 := hM.fx hF1
  refine V.aload_n (q := 888) dL_law_887 rfl rfl ?_
  refine V.aload_n (q := 889) dL_law_888 rfl rfl ?_
  refine V.iload_n (q := 890) dL_law_889 rfl rfl ?_
  refine V.iconst (q := 891) (v := nI 1) dL_law_890 rfl (by decide +kernel) ?_
  refine V.iaddN (q := 892) dL_law_891 rfl ?_
  refine V.sld (q := 893) hC (by omega) dL_law_892 rfl ?_
  refine V.cvi1 (q := 896) dL_law_893 rfl kc_L_132 rfl (by decide) rfl (hC.rm (by decide)) (Nat.le_of_ble_eq_true rfl) (m_count hM1 (ys (i + 1))) (fun r893 τ893 hp893 => ?_)
  obtain ⟨rfl, hM2, hF2⟩ := hp893
  have hX2 := hX1.fm hF2
  exact V.icmp_eq (t := 901) (q := 899) dL_law_896 (by decide) rfl (fun _ => K _ (Iv.mk hX2 hM2)) (fun h9 => absurd rfl h9)
set_option maxHeartbeats 4000000 in
set_option maxRecDepth 100000 in
theorem law_loop {x : Cx} {ys : Nat → Int32} {L : Nat} (hC : LC x ys L) (hE : ∀ (i : Nat) (σ : Sg), V x RL cL_law 4 907 [some (.ref 102), some (.ref 0), some (.ref 43), some (.int (nI i))] [] σ) : ∀ d i, L + 4 - i ≤ d → i ≤ L + 3 → ∀ σ, Iv σ → V x RL cL_law 4 18 [some (.ref 102), some (.ref 0), some (.ref 43), some (.int (nI i))] [] σ := by
  intro d
  induction d with
  | zero => intro i h1 h2; omega
  | succ d ih =>
    intro i h1 h2 σ hI
    have hL := hC.2.2.2.1
    refine V.iload_n (q := 19) dL_law_18 rfl rfl ?_
    refine V.aload_n (q := 20) dL_law_19 rfl rfl ?_
    refine V.slen (q := 21) hC dL_law_20 rfl ?_
    refine V.iconst (q := 22) (v := nI 4) dL_law_21 rfl (by decide +kernel) ?_
    refine V.isub (q := 23) dL_law_22 rfl ?_
    refine V.icmp_gt (t := 907) (q := 26) dL_law_23 (by decide) rfl (fun _ => hE i σ) (fun c23 => ?_)
    have hi4 : i + 4 ≤ L := by
      rcases Nat.lt_or_ge L 4 with h9 | h9
      · have h8 := pk_sneg (a := L) (b := 4) (by decide) h9
        exact absurd (Int32.lt_of_lt_of_le h8 (nI_pos' (show i < 2 ^ 31 by omega))) c23
      · rw [pk_sub h9] at c23
        rcases Nat.lt_or_ge (L - 4) i with h8 | h8
        · exact absurd (nI_lt h8 (show i < 2 ^ 31 by omega)) c23
        · omega
    have K : ∀ σ1 : Sg, Iv σ1 → V x RL cL_law 4 901 [some (.ref 102), some (.ref 0), some (.ref 43), some (.int (nI i))] [] σ1 := by
      intro σ1 hI1
      refine V.inc3 (q := 904) dL_law_901 rfl (nI_add i 4) ?_
      refine V.goto (q := 18) dL_law_904 (by decide) ?_
      exact ih (i + 4) (by omega) (by omega) σ1 hI1
    refine V.aload_n (q := 27) dL_law_26 rfl rfl ?_
    refine V.iload_n (q := 28) dL_law_27 rfl rfl ?_
    refine V.sld (q := 29) hC (by omega) dL_law_28 rfl ?_
    refine V.bipush (q := 31) (v := nI 31) dL_law_29 rfl (by decide +kernel) ?_
    refine V.iand (q := 32) dL_law_31 rfl ?_
    obtain ⟨k, hk, ek⟩ := pk_andE (ys i) (m := nI 31) 5 (by decide +kernel)
    rw [ek]
    have hk2 : k < 32 := hk
    obtain ⟨n, y, τ, fl, n2, y2, τ2, m, cs, rl, ro, rc, hX, hM⟩ := id hI
    rcases (show k = 0 ∨ k = 1 ∨ k = 2 ∨ k = 3 ∨ k = 4 ∨ k = 5 ∨ k = 6 ∨ k = 7 ∨ k = 8 ∨ k = 9 ∨ k = 10 ∨ k = 11 ∨ k = 12 ∨ k = 13 ∨ k = 14 ∨ k = 15 ∨ k = 16 ∨ k = 17 ∨ k = 18 ∨ k = 19 ∨ k = 20 ∨ k = 21 ∨ k = 22 ∨ k = 23 ∨ k = 24 ∨ k = 25 ∨ k = 26 ∨ k = 27 ∨ k = 28 ∨ k = 29 ∨ k = 30 ∨ k = 31 by omega) with rfl | rfl | rfl | rfl | rfl | rfl | rfl | rfl | rfl | rfl | rfl | rfl | rfl | rfl | rfl | rfl | rfl | rfl | rfl | rfl | rfl | rfl | rfl | rfl | rfl | rfl | rfl | rfl | rfl | rfl | rfl | rfl
    · exact V.tableIn (q := 164) (off := 132) dL_law_32 (by decide +kernel) (by decide +kernel) (by decide +kernel) (by decide) (l_letter hC hi4 hX hM K)
    · exact V.tableIn (q := 187) (off := 155) dL_law_32 (by decide +kernel) (by decide +kernel) (by decide +kernel) (by decide) (l_town hC hi4 hX hM K)
    · exact V.tableIn (q := 200) (off := 168) dL_law_32 (by decide +kernel) (by decide +kernel) (by decide +kernel) (by decide) (l_street hC hi4 hX hM K)
    · exact V.tableIn (q := 233) (off := 201) dL_law_32 (by decide +kernel) (by decide +kernel) (by decide +kernel) (by decide) (l_mends hC hi4 hX hM K)
    · exact V.tableIn (q := 266) (off := 234) dL_law_32 (by decide +kernel) (by decide +kernel) (by decide +kernel) (by decide) (l_pence hC hi4 hX hM K)
    · exact V.tableIn (q := 299) (off := 267) dL_law_32 (by decide +kernel) (by decide +kernel) (by decide +kernel) (by decide) (l_hands hC hi4 hX hM K)
    · exact V.tableIn (q := 332) (off := 300) dL_law_32 (by decide +kernel) (by decide +kernel) (by decide +kernel) (by decide) (l_year hC hi4 hX hM K)
    · exact V.tableIn (q := 345) (off := 313) dL_law_32 (by decide +kernel) (by decide +kernel) (by decide +kernel) (by decide) (l_mud hC hi4 hX hM K)
    · exact V.tableIn (q := 378) (off := 346) dL_law_32 (by decide +kernel) (by decide +kernel) (by decide +kernel) (by decide) (l_worst hC hi4 hX hM K)
    · exact V.tableIn (q := 411) (off := 379) dL_law_32 (by decide +kernel) (by decide +kernel) (by decide +kernel) (by decide) (l_again hC hi4 hX hM K)
    · exact V.tableIn (q := 424) (off := 392) dL_law_32 (by decide +kernel) (by decide +kernel) (by decide +kernel) (by decide) (l_way hC hi4 hX hM K)
    · exact V.tableIn (q := 457) (off := 425) dL_law_32 (by decide +kernel) (by decide +kernel) (by decide +kernel) (by decide) (l_ring hC hi4 hX hM K)
    · exact V.tableIn (q := 470) (off := 438) dL_law_32 (by decide +kernel) (by decide +kernel) (by decide +kernel) (by decide) (l_tail hC hi4 hX hM K)
    · exact V.tableIn (q := 493) (off := 461) dL_law_32 (by decide +kernel) (by decide +kernel) (by decide +kernel) (by decide) (l_rings hC hi4 hX hM K)
    · exact V.tableIn (q := 506) (off := 474) dL_law_32 (by decide +kernel) (by decide +kernel) (by decide +kernel) (by decide) (l_never hC hi4 hX hM K)
    · exact V.tableIn (q := 519) (off := 487) dL_law_32 (by decide +kernel) (by decide +kernel) (by decide +kernel) (by decide) (l_felt hC hi4 hX hM K)
    · exact V.tableIn (q := 552) (off := 520) dL_law_32 (by decide +kernel) (by decide +kernel) (by decide +kernel) (by decide) (l_worth hC hi4 hX hM K)
    · exact V.tableIn (q := 585) (off := 553) dL_law_32 (by decide +kernel) (by decide +kernel) (by decide +kernel) (by decide) (l_bestMap hC hi4 hX hM K)
    · exact V.tableIn (q := 618) (off := 586) dL_law_32 (by decide +kernel) (by decide +kernel) (by decide +kernel) (by decide) (l_change hC hi4 hX hM K)
    · exact V.tableIn (q := 641) (off := 609) dL_law_32 (by decide +kernel) (by decide +kernel) (by decide +kernel) (by decide) (l_cure hC hi4 hX hM K)
    · exact V.tableIn (q := 674) (off := 642) dL_law_32 (by decide +kernel) (by decide +kernel) (by decide +kernel) (by decide) (l_putIn hC hi4 hX hM K)
    · exact V.tableIn (q := 717) (off := 685) dL_law_32 (by decide +kernel) (by decide +kernel) (by decide +kernel) (by decide) (l_takeOut hC hi4 hX hM K)
    · exact V.tableIn (q := 750) (off := 718) dL_law_32 (by decide +kernel) (by decide +kernel) (by decide +kernel) (by decide) (l_row hC hi4 hX hM K)
    · exact V.tableIn (q := 773) (off := 741) dL_law_32 (by decide +kernel) (by decide +kernel) (by decide +kernel) (by decide) (l_fitting hC hi4 hX hM K)
    · exact V.tableIn (q := 806) (off := 774) dL_law_32 (by decide +kernel) (by decide +kernel) (by decide +kernel) (by decide) (l_judge hC hi4 hX hM K)
    · exact V.tableIn (q := 819) (off := 787) dL_law_32 (by decide +kernel) (by decide +kernel) (by decide +kernel) (by decide) (l_seeds hC hi4 hX hM K)
    · exact V.tableIn (q := 852) (off := 820) dL_law_32 (by decide +kernel) (by decide +kernel) (by decide +kernel) (by decide) (l_image hC hi4 hX hM K)
    · exact V.tableIn (q := 865) (off := 833) dL_law_32 (by decide +kernel) (by decide +kernel) (by decide +kernel) (by decide) (l_on hC hi4 hX hM K)
    · exact V.tableIn (q := 878) (off := 846) dL_law_32 (by decide +kernel) (by decide +kernel) (by decide +kernel) (by decide) (l_count hC hi4 hX hM K)
    · exact V.tableOut (q := 901) dL_law_32 (Or.inr (by decide +kernel)) (by decide) (K _ hI)
    · exact V.tableOut (q := 901) dL_law_32 (Or.inr (by decide +kernel)) (by decide) (K _ hI)
    · exact V.tableOut (q := 901) dL_law_32 (Or.inr (by decide +kernel)) (by decide) (K _ hI)
