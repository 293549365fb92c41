theorem RD.b {σ : Sg} {m p : Nat} {cs : Nat → Nat} {v : Int32} (h : RD σ m cs p) : RD (w2 (w2 σ 43 11 v) 43 11 (nI (p + 1 - 1))) m cs p := by
  rw [Nat.add_sub_cancel]
  exact ⟨h.1, by rw [w2_nk (by decide), w2_nk (by decide)]; exact h.2.1, by rw [w2_at], h.2.2.2.1, by rw [w2_ne (by decide), w2_ne (by decide)]; exact h.2.2.2.2⟩
-- readsStatement
set_option maxHeartbeats 4000000 in
set_option maxRecDepth 100000 in
theorem m_readsStatement {σ : Sg} {m p : Nat} {cs : Nat → Nat} (hR : RD σ m cs p) (hpm : p ≤ m) : Con 3 yX3_readsStatement cX3_readsStatement 3 (some .boolean) [.ref 43] σ (PI (fun r σ1 => RS σ m cs p r σ1)) := by
  refine Con.of (by decide) (by simp [Value.category]) (Nat.le_of_ble_eq_true rfl) (fun x hB => ?_)
  show V x RX3 cX3_readsStatement 3 0 [some (.ref 43), none, none] [] _
  have hm64 := hR.1
  refine V.aload_n (q := 1) dX3_readsStatement_0 rfl rfl ?_
  refine V.cvi0 (q := 4) dX3_readsStatement_1 rfl kc_X3_78 rfl (by decide) rfl (hB.rm (by decide)) (Nat.le_of_ble_eq_true rfl) (m_sign hR) (fun r1 τ1 hp1 => ?_)
  obtain ⟨rfl, hz⟩ := hp1
  rw [hz]
  refine V.ist1 (q := 5) dX3_readsStatement_4 rfl ?_
  refine V.iconst (q := 6) (v := nI 0) dX3_readsStatement_5 rfl (by decide +kernel) ?_
  refine V.ist2 (q := 7) dX3_readsStatement_6 rfl ?_
  refine V.aload_n (q := 8) dX3_readsStatement_7 rfl rfl ?_
  refine V.dup (q := 9) dX3_readsStatement_8 rfl rfl ?_
  refine V.getI (q := 12) dX3_readsStatement_9 rfl kf_X3_75 rfl (by decide) rfl hR.2.2.1 ?_
  refine V.iconst (q := 13) (v := nI 1) dX3_readsStatement_12 rfl (by decide +kernel) ?_
  refine V.iaddN (q := 14) dX3_readsStatement_13 rfl ?_
  refine V.putI (q := 17) dX3_readsStatement_14 rfl kp_X3_75 rfl (by decide) rfl rfl rfl ?_
  have hR1 := hR.p (q := p + 1) (by omega)
  have hG1 : Gr σ (w2 σ 43 11 (nI (p + 1))) := Gr.rf.p
  refine V.iload_n (q := 18) dX3_readsStatement_17 rfl rfl ?_
  rcases st_ca hR with ⟨hpl, hc0⟩ | ⟨hpl, hc0⟩ | ⟨hpl, hc0⟩ | ⟨hne, hdu⟩
  · have hsg : oI (-1) (sgK m cs p) = nI 115 := by unfold sgK; rw [if_pos hpl, hc0]; rfl
    have hn1 : Rn m cs p 0 (p + 1) 1 := Rn.rf.st hpl (by rw [hc0]; decide)
    rw [hsg]
    refine V.lookup (q := 52) (off := 34) dX3_readsStatement_18 (by decide) (by decide +kernel) (by decide) ?_
    refine V.aload_n (q := 53) dX3_readsStatement_52 rfl rfl ?_
    refine V.cvi0 (q := 56) dX3_readsStatement_53 rfl kc_X3_85 rfl (by decide) rfl (hB.rm (by decide)) (Nat.le_of_ble_eq_true rfl) (m_readsKind hR1 (by omega)) (fun r53 τ53 hp53 => ?_)
    rcases hp53 with ⟨rfl, hp2, ⟨kd, hkd, t2⟩, hR2, hG2, ho2⟩ | ⟨rfl, hno, hR2, hG2⟩
    · have hn2 := hn1.st hp2 (due1_y hkd)
      have h592 := kd59 hkd
      have hg2 := hG1.tr hG2
      refine V.ifN_eq (t := 90) (q := 59) dX3_readsStatement_56 (by decide) rfl (by omega) (fun c56 => absurd c56 (by decide +kernel)) (fun c56 => ?_)
      refine V.aload_n (q := 60) dX3_readsStatement_59 rfl rfl ?_
      refine V.iconst (q := 61) (v := nI 1) dX3_readsStatement_60 rfl (by decide +kernel) ?_
      refine V.iconst (q := 62) (v := nI 1) dX3_readsStatement_61 rfl (by decide +kernel) ?_
      refine V.cvi2 (q := 65) dX3_readsStatement_62 rfl kc_X3_89 rfl (by decide) rfl (hB.rm (by decide)) (Nat.le_of_ble_eq_true rfl) (m_num1 hR2 (by omega) (k := 1) (by decide)) (fun r62 τ62 hp62 => ?_)
      rcases hp62 with ⟨rfl, hd3, t3, hR3, hG3, ho3⟩ | ⟨rfl, hno, hR3, hG3⟩
      · have hn3 := hn2.st hd3.1 (due_y (s := 2) (u := 3) (by omega) hd3.2)
        have hg3 := hg2.tr hG3
        have hl3 := hd3.1
        refine V.ifN_eq (t := 90) (q := 68) dX3_readsStatement_65 (by decide) rfl (by omega) (fun c65 => absurd c65 (by decide +kernel)) (fun c65 => ?_)
        refine V.aload_n (q := 69) dX3_readsStatement_68 rfl rfl ?_
        refine V.iconst (q := 70) (v := nI 2) dX3_readsStatement_69 rfl (by decide +kernel) ?_
        refine V.iconst (q := 71) (v := nI 1) dX3_readsStatement_70 rfl (by decide +kernel) ?_
        refine V.cvi2 (q := 74) dX3_readsStatement_71 rfl kc_X3_89 rfl (by decide) rfl (hB.rm (by decide)) (Nat.le_of_ble_eq_true rfl) (m_num1 hR3 (by omega) (k := 2) (by decide)) (fun r71 τ71 hp71 => ?_)
        rcases hp71 with ⟨rfl, hd4, t4, hR4, hG4, ho4⟩ | ⟨rfl, hno, hR4, hG4⟩
        · have hn4 := hn3.st hd4.1 (due_y (s := 3) (u := 4) (by omega) hd4.2)
          have hg4 := hg3.tr hG4
          have hl4 := hd4.1
          refine V.ifN_eq (t := 90) (q := 77) dX3_readsStatement_74 (by decide) rfl (by omega) (fun c74 => absurd c74 (by decide +kernel)) (fun c74 => ?_)
          refine V.aload_n (q := 78) dX3_readsStatement_77 rfl rfl ?_
          refine V.iconst (q := 79) (v := nI 3) dX3_readsStatement_78 rfl (by decide +kernel) ?_
          refine V.iconst (q := 80) (v := nI 1) dX3_readsStatement_79 rfl (by decide +kernel) ?_
          refine V.cvi2 (q := 83) dX3_readsStatement_80 rfl kc_X3_89 rfl (by decide) rfl (hB.rm (by decide)) (Nat.le_of_ble_eq_true rfl) (m_num1 hR4 (by omega) (k := 3) (by decide)) (fun r80 τ80 hp80 => ?_)
          rcases hp80 with ⟨rfl, hd5, t5, hR5, hG5, ho5⟩ | ⟨rfl, hno, hR5, hG5⟩
          · have hn5 := hn4.st hd5.1 (due_y (s := 4) (u := 5) (by omega) hd5.2)
            have hg5 := hg4.tr hG5
            have hl5 := hd5.1
            refine V.ifN_eq (t := 90) (q := 86) dX3_readsStatement_83 (by decide) rfl (by omega) (fun c83 => absurd c83 (by decide +kernel)) (fun c83 => ?_)
            refine V.iconst (q := 87) (v := nI 1) dX3_readsStatement_86 rfl (by decide +kernel) ?_
            refine V.goto (q := 91) dX3_readsStatement_87 (by decide) ?_
            refine V.ist2 (q := 92) dX3_readsStatement_91 rfl ?_
            refine V.goto (q := 170) dX3_readsStatement_92 (by decide) ?_
            refine V.iload_n (q := 171) dX3_readsStatement_170 rfl rfl ?_
            refine V.ifN_eq (t := 187) (q := 174) dX3_readsStatement_171 (by decide) rfl (by omega) (fun c171 => absurd c171 (by decide +kernel)) (fun c171 => ?_)
            refine V.aload_n (q := 175) dX3_readsStatement_174 rfl rfl ?_
            refine V.bipush (q := 177) (v := nI 59) dX3_readsStatement_175 rfl (by decide +kernel) ?_
            refine V.cvi1 (q := 180) dX3_readsStatement_177 rfl kc_X3_92 rfl (by decide) rfl (hB.rm (by decide)) (Nat.le_of_ble_eq_true rfl) (m_takes hR5 (c := 59) (by decide)) (fun r177 τ177 hp177 => ?_)
            rcases hp177 with ⟨rfl, hp9, hc9, rfl⟩ | ⟨rfl, hno, rfl⟩
            · have hn9 := hn5.st hp9 (by rw [hc9]; rfl)
              refine V.ifN_eq (t := 187) (q := 183) dX3_readsStatement_180 (by decide) rfl (by omega) (fun c180 => absurd c180 (by decide +kernel)) (fun c180 => ?_)
              refine V.iconst (q := 184) (v := nI 1) dX3_readsStatement_183 rfl (by decide +kernel) ?_
              refine V.goto (q := 188) dX3_readsStatement_184 (by decide) ?_
              exact V.ret_int hB dX3_readsStatement_188 (by decide +kernel) ⟨_, rfl, Or.inl ⟨rfl, _, by omega, by omega, hn9, hR5.p (by omega), hg5.p, hc9, fun i h1 h2 => by
      have a3 := hd3.2; have a4 := hd4.2; have a5 := hd5.2
      rcases (show i = p ∨ i = p + 1 ∨ i = p + 1 + 1 ∨ i = p + 1 + 1 + 1 ∨ i = p + 1 + 1 + 1 + 1 by omega) with rfl | rfl | rfl | rfl | rfl <;> omega, Or.inl ⟨hc0, by omega, by rw [w2_ne (by decide), ho5 0 (by decide), ho4 0 (by decide), ho3 0 (by decide), t2, hkd]; rfl, by rw [w2_ne (by decide), ho5 1 (by decide), ho4 1 (by decide)]; exact t3, by rw [w2_ne (by decide), ho5 2 (by decide)]; exact t4, by rw [w2_ne (by decide)]; exact t5⟩⟩⟩
            · have hfl := hn5.fl (Or.inl (by decide)) (by omega) (fun h9 => due5_n (fun h8 => hno ⟨h9, h8⟩))
              refine V.ifN_eq (t := 187) (q := 183) dX3_readsStatement_180 (by decide) rfl (by omega) (fun c180 => ?_) (fun c180 => absurd c180 (by decide +kernel))
              refine V.iconst (q := 188) (v := nI 0) dX3_readsStatement_187 rfl (by decide +kernel) ?_
              exact V.ret_int hB dX3_readsStatement_188 (by decide +kernel) ⟨_, rfl, Or.inr ⟨rfl, _, by omega, hR5, hg5, Or.inr ⟨hpl, hfl⟩⟩⟩
          · have hfl := hn4.fl (Or.inl (by decide)) (by omega) (fun h9 => due_n (s := 4) (by omega) (fun h8 => hno ⟨h9, h8⟩))
            refine V.ifN_eq (t := 90) (q := 86) dX3_readsStatement_83 (by decide) rfl (by omega) (fun c83 => ?_) (fun c83 => absurd c83 (by decide +kernel))
            refine V.iconst (q := 91) (v := nI 0) dX3_readsStatement_90 rfl (by decide +kernel) ?_
            refine V.ist2 (q := 92) dX3_readsStatement_91 rfl ?_
            refine V.goto (q := 170) dX3_readsStatement_92 (by decide) ?_
            refine V.iload_n (q := 171) dX3_readsStatement_170 rfl rfl ?_
            refine V.ifN_eq (t := 187) (q := 174) dX3_readsStatement_171 (by decide) rfl (by omega) (fun c171 => ?_) (fun c171 => absurd c171 (by decide +kernel))
            refine V.iconst (q := 188) (v := nI 0) dX3_readsStatement_187 rfl (by decide +kernel) ?_
            exact V.ret_int hB dX3_readsStatement_188 (by decide +kernel) ⟨_, rfl, Or.inr ⟨rfl, _, by omega, hR5, hg4.tr hG5, Or.inr ⟨hpl, hfl⟩⟩⟩
        · have hfl := hn3.fl (Or.inl (by decide)) (by omega) (fun h9 => due_n (s := 3) (by omega) (fun h8 => hno ⟨h9, h8⟩))
          refine V.ifN_eq (t := 90) (q := 77) dX3_readsStatement_74 (by decide) rfl (by omega) (fun c74 => ?_) (fun c74 => absurd c74 (by decide +kernel))
          refine V.iconst (q := 91) (v := nI 0) dX3_readsStatement_90 rfl (by decide +kernel) ?_
          refine V.ist2 (q := 92) dX3_readsStatement_91 rfl ?_
          refine V.goto (q := 170) dX3_readsStatement_92 (by decide) ?_
          refine V.iload_n (q := 171) dX3_readsStatement_170 rfl rfl ?_
          refine V.ifN_eq (t := 187) (q := 174) dX3_readsStatement_171 (by decide) rfl (by omega) (fun c171 => ?_) (fun c171 => absurd c171 (by decide +kernel))
          refine V.iconst (q := 188) (v := nI 0) dX3_readsStatement_187 rfl (by decide +kernel) ?_
          exact V.ret_int hB dX3_readsStatement_188 (by decide +kernel) ⟨_, rfl, Or.inr ⟨rfl, _, by omega, hR4, hg3.tr hG4, Or.inr ⟨hpl, hfl⟩⟩⟩
      · have hfl := hn2.fl (Or.inl (by decide)) (by omega) (fun h9 => due_n (s := 2) (by omega) (fun h8 => hno ⟨h9, h8⟩))
        refine V.ifN_eq (t := 90) (q := 68) dX3_readsStatement_65 (by decide) rfl (by omega) (fun c65 => ?_) (fun c65 => absurd c65 (by decide +kernel))
        refine V.iconst (q := 91) (v := nI 0) dX3_readsStatement_90 rfl (by decide +kernel) ?_
        refine V.ist2 (q := 92) dX3_readsStatement_91 rfl ?_
        refine V.goto (q := 170) dX3_readsStatement_92 (by decide) ?_
        refine V.iload_n (q := 171) dX3_readsStatement_170 rfl rfl ?_
        refine V.ifN_eq (t := 187) (q := 174) dX3_readsStatement_171 (by decide) rfl (by omega) (fun c171 => ?_) (fun c171 => absurd c171 (by decide +kernel))
        refine V.iconst (q := 188) (v := nI 0) dX3_readsStatement_187 rfl (by decide +kernel) ?_
        exact V.ret_int hB dX3_readsStatement_188 (by decide +kernel) ⟨_, rfl, Or.inr ⟨rfl, _, by omega, hR3, hg2.tr hG3, Or.inr ⟨hpl, hfl⟩⟩⟩
    · have hfl := hn1.fl (Or.inl (by decide)) (by omega) (fun h9 => due1_n (fun h8 => hno ⟨h9, h8⟩))
      refine V.ifN_eq (t := 90) (q := 59) dX3_readsStatement_56 (by decide) rfl (by omega) (fun c56 => ?_) (fun c56 => absurd c56 (by decide +kernel))
      refine V.iconst (q := 91) (v := nI 0) dX3_readsStatement_90 rfl (by decide +kernel) ?_
      refine V.ist2 (q := 92) dX3_readsStatement_91 rfl ?_
      refine V.goto (q := 170) dX3_readsStatement_92 (by decide) ?_
      refine V.iload_n (q := 171) dX3_readsStatement_170 rfl rfl ?_
      refine V.ifN_eq (t := 187) (q := 174) dX3_readsStatement_171 (by decide) rfl (by omega) (fun c171 => ?_) (fun c171 => absurd c171 (by decide +kernel))
      refine V.iconst (q := 188) (v := nI 0) dX3_readsStatement_187 rfl (by decide +kernel) ?_
      exact V.ret_int hB dX3_readsStatement_188 (by decide +kernel) ⟨_, rfl, Or.inr ⟨rfl, _, by omega, hR2, hG1.tr hG2, Or.inr ⟨hpl, hfl⟩⟩⟩
  · have hsg : oI (-1) (sgK m cs p) = nI 109 := by unfold sgK; rw [if_pos hpl, hc0]; rfl
    have hn1 : Rn m cs p 0 (p + 1) 3 := Rn.rf.st hpl (by rw [hc0]; decide)
    rw [hsg]
    refine V.lookup (q := 95) (off := 77) dX3_readsStatement_18 (by decide) (by decide +kernel) (by decide) ?_
    refine V.aload_n (q := 96) dX3_readsStatement_95 rfl rfl ?_
    refine V.iconst (q := 97) (v := nI 0) dX3_readsStatement_96 rfl (by decide +kernel) ?_
    refine V.iconst (q := 98) (v := nI 1) dX3_readsStatement_97 rfl (by decide +kernel) ?_
    refine V.cvi2 (q := 101) dX3_readsStatement_98 rfl kc_X3_89 rfl (by decide) rfl (hB.rm (by decide)) (Nat.le_of_ble_eq_true rfl) (m_num1 hR1 (by omega) (k := 0) (by decide)) (fun r98 τ98 hp98 => ?_)
    rcases hp98 with ⟨rfl, hd2, t2, hR2, hG2, ho2⟩ | ⟨rfl, hno, hR2, hG2⟩
    · have hn2 := hn1.st hd2.1 (due_y (s := 3) (u := 4) (by omega) hd2.2)
      have hg2 := hG1.tr hG2
      have hl2 := hd2.1
      refine V.ifN_eq (t := 117) (q := 104) dX3_readsStatement_101 (by decide) rfl (by omega) (fun c101 => absurd c101 (by decide +kernel)) (fun c101 => ?_)
      refine V.aload_n (q := 105) dX3_readsStatement_104 rfl rfl ?_
      refine V.iconst (q := 106) (v := nI 1) dX3_readsStatement_105 rfl (by decide +kernel) ?_
      refine V.iconst (q := 107) (v := nI 1) dX3_readsStatement_106 rfl (by decide +kernel) ?_
      refine V.cvi2 (q := 110) dX3_readsStatement_107 rfl kc_X3_89 rfl (by decide) rfl (hB.rm (by decide)) (Nat.le_of_ble_eq_true rfl) (m_num1 hR2 (by omega) (k := 1) (by decide)) (fun r107 τ107 hp107 => ?_)
      rcases hp107 with ⟨rfl, hd3, t3, hR3, hG3, ho3⟩ | ⟨rfl, hno, hR3, hG3⟩
      · have hn3 := hn2.st hd3.1 (due_y (s := 4) (u := 5) (by omega) hd3.2)
        have hg3 := hg2.tr hG3
        have hl3 := hd3.1
        refine V.ifN_eq (t := 117) (q := 113) dX3_readsStatement_110 (by decide) rfl (by omega) (fun c110 => absurd c110 (by decide +kernel)) (fun c110 => ?_)
        refine V.iconst (q := 114) (v := nI 1) dX3_readsStatement_113 rfl (by decide +kernel) ?_
        refine V.goto (q := 118) dX3_readsStatement_114 (by decide) ?_
        refine V.ist2 (q := 119) dX3_readsStatement_118 rfl ?_
        refine V.goto (q := 170) dX3_readsStatement_119 (by decide) ?_
        refine V.iload_n (q := 171) dX3_readsStatement_170 rfl rfl ?_
        refine V.ifN_eq (t := 187) (q := 174) dX3_readsStatement_171 (by decide) rfl (by omega) (fun c171 => absurd c171 (by decide +kernel)) (fun c171 => ?_)
        refine V.aload_n (q := 175) dX3_readsStatement_174 rfl rfl ?_
        refine V.bipush (q := 177) (v := nI 59) dX3_readsStatement_175 rfl (by decide +kernel) ?_
        refine V.cvi1 (q := 180) dX3_readsStatement_177 rfl kc_X3_92 rfl (by decide) rfl (hB.rm (by decide)) (Nat.le_of_ble_eq_true rfl) (m_takes hR3 (c := 59) (by decide)) (fun r177 τ177 hp177 => ?_)
        rcases hp177 with ⟨rfl, hp9, hc9, rfl⟩ | ⟨rfl, hno, rfl⟩
        · have hn9 := hn3.st hp9 (by rw [hc9]; rfl)
          refine V.ifN_eq (t := 187) (q := 183) dX3_readsStatement_180 (by decide) rfl (by omega) (fun c180 => absurd c180 (by decide +kernel)) (fun c180 => ?_)
          refine V.iconst (q := 184) (v := nI 1) dX3_readsStatement_183 rfl (by decide +kernel) ?_
          refine V.goto (q := 188) dX3_readsStatement_184 (by decide) ?_
          exact V.ret_int hB dX3_readsStatement_188 (by decide +kernel) ⟨_, rfl, Or.inl ⟨rfl, _, by omega, by omega, hn9, hR3.p (by omega), hg3.p, hc9, fun i h1 h2 => by
      have a2 := hd2.2; have a3 := hd3.2
      rcases (show i = p ∨ i = p + 1 ∨ i = p + 1 + 1 by omega) with rfl | rfl | rfl <;> omega, Or.inr (Or.inl ⟨hc0, by omega, by rw [w2_ne (by decide), ho3 0 (by decide)]; exact t2, by rw [w2_ne (by decide)]; exact t3⟩)⟩⟩
        · have hfl := hn3.fl (Or.inl (by decide)) (by omega) (fun h9 => due5_n (fun h8 => hno ⟨h9, h8⟩))
          refine V.ifN_eq (t := 187) (q := 183) dX3_readsStatement_180 (by decide) rfl (by omega) (fun c180 => ?_) (fun c180 => absurd c180 (by decide +kernel))
          refine V.iconst (q := 188) (v := nI 0) dX3_readsStatement_187 rfl (by decide +kernel) ?_
          exact V.ret_int hB dX3_readsStatement_188 (by decide +kernel) ⟨_, rfl, Or.inr ⟨rfl, _, by omega, hR3, hg3, Or.inr ⟨hpl, hfl⟩⟩⟩
      · have hfl := hn2.fl (Or.inl (by decide)) (by omega) (fun h9 => due_n (s := 4) (by omega) (fun h8 => hno ⟨h9, h8⟩))
        refine V.ifN_eq (t := 117) (q := 113) dX3_readsStatement_110 (by decide) rfl (by omega) (fun c110 => ?_) (fun c110 => absurd c110 (by decide +kernel))
        refine V.iconst (q := 118) (v := nI 0) dX3_readsStatement_117 rfl (by decide +kernel) ?_
        refine V.ist2 (q := 119) dX3_readsStatement_118 rfl ?_
        refine V.goto (q := 170) dX3_readsStatement_119 (by decide) ?_
        refine V.iload_n (q := 171) dX3_readsStatement_170 rfl rfl ?_
        refine V.ifN_eq (t := 187) (q := 174) dX3_readsStatement_171 (by decide) rfl (by omega) (fun c171 => ?_) (fun c171 => absurd c171 (by decide +kernel))
        refine V.iconst (q := 188) (v := nI 0) dX3_readsStatement_187 rfl (by decide +kernel) ?_
        exact V.ret_int hB dX3_readsStatement_188 (by decide +kernel) ⟨_, rfl, Or.inr ⟨rfl, _, by omega, hR3, hg2.tr hG3, Or.inr ⟨hpl, hfl⟩⟩⟩
    · have hfl := hn1.fl (Or.inl (by decide)) (by omega) (fun h9 => due_n (s := 3) (by omega) (fun h8 => hno ⟨h9, h8⟩))
      refine V.ifN_eq (t := 117) (q := 104) dX3_readsStatement_101 (by decide) rfl (by omega) (fun c101 => ?_) (fun c101 => absurd c101 (by decide +kernel))
      refine V.iconst (q := 118) (v := nI 0) dX3_readsStatement_117 rfl (by decide +kernel) ?_
      refine V.ist2 (q := 119) dX3_readsStatement_118 rfl ?_
      refine V.goto (q := 170) dX3_readsStatement_119 (by decide) ?_
      refine V.iload_n (q := 171) dX3_readsStatement_170 rfl rfl ?_
      refine V.ifN_eq (t := 187) (q := 174) dX3_readsStatement_171 (by decide) rfl (by omega) (fun c171 => ?_) (fun c171 => absurd c171 (by decide +kernel))
      refine V.iconst (q := 188) (v := nI 0) dX3_readsStatement_187 rfl (by decide +kernel) ?_
      exact V.ret_int hB dX3_readsStatement_188 (by decide +kernel) ⟨_, rfl, Or.inr ⟨rfl, _, by omega, hR2, hG1.tr hG2, Or.inr ⟨hpl, hfl⟩⟩⟩
  · have hsg : oI (-1) (sgK m cs p) = nI 112 := by unfold sgK; rw [if_pos hpl, hc0]; rfl
    have hn1 : Rn m cs p 0 (p + 1) 6 := Rn.rf.st hpl (by rw [hc0]; decide)
    rw [hsg]
    refine V.lookup (q := 122) (off := 104) dX3_readsStatement_18 (by decide) (by decide +kernel) (by decide) ?_
    refine V.aload_n (q := 123) dX3_readsStatement_122 rfl rfl ?_
    refine V.iconst (q := 124) (v := nI 0) dX3_readsStatement_123 rfl (by decide +kernel) ?_
    refine V.iconst (q := 125) (v := nI 1) dX3_readsStatement_124 rfl (by decide +kernel) ?_
    refine V.cvi2 (q := 128) dX3_readsStatement_125 rfl kc_X3_89 rfl (by decide) rfl (hB.rm (by decide)) (Nat.le_of_ble_eq_true rfl) (m_num1 hR1 (by omega) (k := 0) (by decide)) (fun r125 τ125 hp125 => ?_)
    rcases hp125 with ⟨rfl, hd2, t2, hR2, hG2, ho2⟩ | ⟨rfl, hno, hR2, hG2⟩
    · have hn2 := hn1.st hd2.1 (due_y (s := 6) (u := 7) (by omega) hd2.2)
      have hg2 := hG1.tr hG2
      have hl2 := hd2.1
      refine V.ifN_eq (t := 153) (q := 131) dX3_readsStatement_128 (by decide) rfl (by omega) (fun c128 => absurd c128 (by decide +kernel)) (fun c128 => ?_)
      refine V.aload_n (q := 132) dX3_readsStatement_131 rfl rfl ?_
      refine V.bipush (q := 134) (v := nI 44) dX3_readsStatement_132 rfl (by decide +kernel) ?_
      refine V.cvi1 (q := 137) dX3_readsStatement_134 rfl kc_X3_92 rfl (by decide) rfl (hB.rm (by decide)) (Nat.le_of_ble_eq_true rfl) (m_takes hR2 (c := 44) (by decide)) (fun r134 τ134 hp134 => ?_)
      rcases hp134 with ⟨rfl, hp3, hc3, rfl⟩ | ⟨rfl, hno, rfl⟩
      · have hn3 := hn2.st hp3 (by rw [hc3]; rfl)
        have hR3 := hR2.p (q := p + 1 + 1 + 1) (by omega)
        have hG3 := hg2.p (v := nI (p + 1 + 1 + 1))
        refine V.ifN_eq (t := 153) (q := 140) dX3_readsStatement_137 (by decide) rfl (by omega) (fun c137 => absurd c137 (by decide +kernel)) (fun c137 => ?_)
        refine V.aload_n (q := 141) dX3_readsStatement_140 rfl rfl ?_
        refine V.iconst (q := 142) (v := nI 1) dX3_readsStatement_141 rfl (by decide +kernel) ?_
        refine V.iconst (q := 143) (v := nI 2) dX3_readsStatement_142 rfl (by decide +kernel) ?_
        refine V.cvi2 (q := 146) dX3_readsStatement_143 rfl kc_X3_89 rfl (by decide) rfl (hB.rm (by decide)) (Nat.le_of_ble_eq_true rfl) (m_num2 hR3 (by omega) (k := 1) (by decide)) (fun r143 τ143 hp143 => ?_)
        rcases hp143 with ⟨rfl, hd4, hd5, t4, hR4, hG4, ho4⟩ | ⟨rfl, hd4, hno5, t4, hR4, hG4, ho4⟩ | ⟨rfl, hno, hR4, hG4⟩
        · have hn4 := hn3.st hd4.1 (due_y (s := 8) (u := 9) (by omega) hd4.2)
          have hn5 := hn4.st hd5.1 (due9_d hd5.2)
          have hg4 := hG3.tr hG4
          have hl4 := hd4.1
          have hl5 := hd5.1
          refine V.ifN_eq (t := 153) (q := 149) dX3_readsStatement_146 (by decide) rfl (by omega) (fun c146 => absurd c146 (by decide +kernel)) (fun c146 => ?_)
          refine V.iconst (q := 150) (v := nI 1) dX3_readsStatement_149 rfl (by decide +kernel) ?_
          refine V.goto (q := 154) dX3_readsStatement_150 (by decide) ?_
          refine V.ist2 (q := 155) dX3_readsStatement_154 rfl ?_
          refine V.goto (q := 170) dX3_readsStatement_155 (by decide) ?_
          refine V.iload_n (q := 171) dX3_readsStatement_170 rfl rfl ?_
          refine V.ifN_eq (t := 187) (q := 174) dX3_readsStatement_171 (by decide) rfl (by omega) (fun c171 => absurd c171 (by decide +kernel)) (fun c171 => ?_)
          refine V.aload_n (q := 175) dX3_readsStatement_174 rfl rfl ?_
          refine V.bipush (q := 177) (v := nI 59) dX3_readsStatement_175 rfl (by decide +kernel) ?_
          refine V.cvi1 (q := 180) dX3_readsStatement_177 rfl kc_X3_92 rfl (by decide) rfl (hB.rm (by decide)) (Nat.le_of_ble_eq_true rfl) (m_takes hR4 (c := 59) (by decide)) (fun r177 τ177 hp177 => ?_)
          rcases hp177 with ⟨rfl, hp9, hc9, rfl⟩ | ⟨rfl, hno, rfl⟩
          · have hn9 := hn5.st hp9 (by rw [hc9]; rfl)
            refine V.ifN_eq (t := 187) (q := 183) dX3_readsStatement_180 (by decide) rfl (by omega) (fun c180 => absurd c180 (by decide +kernel)) (fun c180 => ?_)
            refine V.iconst (q := 184) (v := nI 1) dX3_readsStatement_183 rfl (by decide +kernel) ?_
            refine V.goto (q := 188) dX3_readsStatement_184 (by decide) ?_
            exact V.ret_int hB dX3_readsStatement_188 (by decide +kernel) ⟨_, rfl, Or.inl ⟨rfl, _, by omega, by omega, hn9, hR4.p (by omega), hg4.p, hc9, fun i h1 h2 => by
      have a2 := hd2.2; have a4 := hd4.2; have a5 := hd5.2
      rcases (show i = p ∨ i = p + 1 ∨ i = p + 1 + 1 ∨ i = p + 1 + 1 + 1 ∨ i = p + 1 + 1 + 1 + 1 by omega) with rfl | rfl | rfl | rfl | rfl <;> omega, Or.inr (Or.inr ⟨hc0, by rw [w2_ne (by decide), ho4 0 (by decide), w2_ne (by decide)]; exact t2, Or.inr ⟨by omega, hd5.2.1, hd5.2.2, by rw [w2_ne (by decide)]; exact t4⟩⟩)⟩⟩
          · have hfl := hn5.fl (Or.inl (by decide)) (by omega) (fun h9 => due5_n (fun h8 => hno ⟨h9, h8⟩))
            refine V.ifN_eq (t := 187) (q := 183) dX3_readsStatement_180 (by decide) rfl (by omega) (fun c180 => ?_) (fun c180 => absurd c180 (by decide +kernel))
            refine V.iconst (q := 188) (v := nI 0) dX3_readsStatement_187 rfl (by decide +kernel) ?_
            exact V.ret_int hB dX3_readsStatement_188 (by decide +kernel) ⟨_, rfl, Or.inr ⟨rfl, _, by omega, hR4, hg4, Or.inr ⟨hpl, hfl⟩⟩⟩
        · have hn4 := hn3.st hd4.1 (due_y (s := 8) (u := 9) (by omega) hd4.2)
          have hg4 := hG3.tr hG4
          have hl4 := hd4.1
          refine V.ifN_eq (t := 153) (q := 149) dX3_readsStatement_146 (by decide) rfl (by omega) (fun c146 => absurd c146 (by decide +kernel)) (fun c146 => ?_)
          refine V.iconst (q := 150) (v := nI 1) dX3_readsStatement_149 rfl (by decide +kernel) ?_
          refine V.goto (q := 154) dX3_readsStatement_150 (by decide) ?_
          refine V.ist2 (q := 155) dX3_readsStatement_154 rfl ?_
          refine V.goto (q := 170) dX3_readsStatement_155 (by decide) ?_
          refine V.iload_n (q := 171) dX3_readsStatement_170 rfl rfl ?_
          refine V.ifN_eq (t := 187) (q := 174) dX3_readsStatement_171 (by decide) rfl (by omega) (fun c171 => absurd c171 (by decide +kernel)) (fun c171 => ?_)
          refine V.aload_n (q := 175) dX3_readsStatement_174 rfl rfl ?_
          refine V.bipush (q := 177) (v := nI 59) dX3_readsStatement_175 rfl (by decide +kernel) ?_
          refine V.cvi1 (q := 180) dX3_readsStatement_177 rfl kc_X3_92 rfl (by decide) rfl (hB.rm (by decide)) (Nat.le_of_ble_eq_true rfl) (m_takes hR4 (c := 59) (by decide)) (fun r177 τ177 hp177 => ?_)
          rcases hp177 with ⟨rfl, hp9, hc9, rfl⟩ | ⟨rfl, hno, rfl⟩
          · have hn9 := hn4.st hp9 (by rw [hc9]; rfl)
            refine V.ifN_eq (t := 187) (q := 183) dX3_readsStatement_180 (by decide) rfl (by omega) (fun c180 => absurd c180 (by decide +kernel)) (fun c180 => ?_)
            refine V.iconst (q := 184) (v := nI 1) dX3_readsStatement_183 rfl (by decide +kernel) ?_
            refine V.goto (q := 188) dX3_readsStatement_184 (by decide) ?_
            exact V.ret_int hB dX3_readsStatement_188 (by decide +kernel) ⟨_, rfl, Or.inl ⟨rfl, _, by omega, by omega, hn9, hR4.p (by omega), hg4.p, hc9, fun i h1 h2 => by
      have a2 := hd2.2; have a4 := hd4.2
      rcases (show i = p ∨ i = p + 1 ∨ i = p + 1 + 1 ∨ i = p + 1 + 1 + 1 by omega) with rfl | rfl | rfl | rfl <;> omega, Or.inr (Or.inr ⟨hc0, by rw [w2_ne (by decide), ho4 0 (by decide), w2_ne (by decide)]; exact t2, Or.inl ⟨by omega, by rw [w2_ne (by decide)]; exact t4, by have h9 : cs (p + 4) = 59 := hc9; omega⟩⟩)⟩⟩
          · have hfl := hn4.fl (Or.inl (by decide)) (by omega) (fun h9 => due9_n (fun h8 => hno5 ⟨h9, h8⟩) (fun h8 => hno ⟨h9, h8⟩))
            refine V.ifN_eq (t := 187) (q := 183) dX3_readsStatement_180 (by decide) rfl (by omega) (fun c180 => ?_) (fun c180 => absurd c180 (by decide +kernel))
            refine V.iconst (q := 188) (v := nI 0) dX3_readsStatement_187 rfl (by decide +kernel) ?_
            exact V.ret_int hB dX3_readsStatement_188 (by decide +kernel) ⟨_, rfl, Or.inr ⟨rfl, _, by omega, hR4, hg4, Or.inr ⟨hpl, hfl⟩⟩⟩
        · have hfl := hn3.fl (Or.inl (by decide)) (by omega) (fun h9 => due_n (s := 8) (by omega) (fun h8 => hno ⟨h9, h8⟩))
          refine V.ifN_eq (t := 153) (q := 149) dX3_readsStatement_146 (by decide) rfl (by omega) (fun c146 => ?_) (fun c146 => absurd c146 (by decide +kernel))
          refine V.iconst (q := 154) (v := nI 0) dX3_readsStatement_153 rfl (by decide +kernel) ?_
          refine V.ist2 (q := 155) dX3_readsStatement_154 rfl ?_
          refine V.goto (q := 170) dX3_readsStatement_155 (by decide) ?_
          refine V.iload_n (q := 171) dX3_readsStatement_170 rfl rfl ?_
          refine V.ifN_eq (t := 187) (q := 174) dX3_readsStatement_171 (by decide) rfl (by omega) (fun c171 => ?_) (fun c171 => absurd c171 (by decide +kernel))
          refine V.iconst (q := 188) (v := nI 0) dX3_readsStatement_187 rfl (by decide +kernel) ?_
          exact V.ret_int hB dX3_readsStatement_188 (by decide +kernel) ⟨_, rfl, Or.inr ⟨rfl, _, by omega, hR4, hG3.tr hG4, Or.inr ⟨hpl, hfl⟩⟩⟩
      · have hfl := hn2.fl (Or.inl (by decide)) (by omega) (fun h9 => due7_n (fun h8 => hno ⟨h9, h8⟩))
        refine V.ifN_eq (t := 153) (q := 140) dX3_readsStatement_137 (by decide) rfl (by omega) (fun c137 => ?_) (fun c137 => absurd c137 (by decide +kernel))
        refine V.iconst (q := 154) (v := nI 0) dX3_readsStatement_153 rfl (by decide +kernel) ?_
        refine V.ist2 (q := 155) dX3_readsStatement_154 rfl ?_
        refine V.goto (q := 170) dX3_readsStatement_155 (by decide) ?_
        refine V.iload_n (q := 171) dX3_readsStatement_170 rfl rfl ?_
        refine V.ifN_eq (t := 187) (q := 174) dX3_readsStatement_171 (by decide) rfl (by omega) (fun c171 => ?_) (fun c171 => absurd c171 (by decide +kernel))
        refine V.iconst (q := 188) (v := nI 0) dX3_readsStatement_187 rfl (by decide +kernel) ?_
        exact V.ret_int hB dX3_readsStatement_188 (by decide +kernel) ⟨_, rfl, Or.inr ⟨rfl, _, by omega, hR2, hg2, Or.inr ⟨hpl, hfl⟩⟩⟩
    · have hfl := hn1.fl (Or.inl (by decide)) (by omega) (fun h9 => due_n (s := 6) (by omega) (fun h8 => hno ⟨h9, h8⟩))
      refine V.ifN_eq (t := 153) (q := 131) dX3_readsStatement_128 (by decide) rfl (by omega) (fun c128 => ?_) (fun c128 => absurd c128 (by decide +kernel))
      refine V.iconst (q := 154) (v := nI 0) dX3_readsStatement_153 rfl (by decide +kernel) ?_
      refine V.ist2 (q := 155) dX3_readsStatement_154 rfl ?_
      refine V.goto (q := 170) dX3_readsStatement_155 (by decide) ?_
      refine V.iload_n (q := 171) dX3_readsStatement_170 rfl rfl ?_
      refine V.ifN_eq (t := 187) (q := 174) dX3_readsStatement_171 (by decide) rfl (by omega) (fun c171 => ?_) (fun c171 => absurd c171 (by decide +kernel))
      refine V.iconst (q := 188) (v := nI 0) dX3_readsStatement_187 rfl (by decide +kernel) ?_
      exact V.ret_int hB dX3_readsStatement_188 (by decide +kernel) ⟨_, rfl, Or.inr ⟨rfl, _, by omega, hR2, hG1.tr hG2, Or.inr ⟨hpl, hfl⟩⟩⟩
  · refine V.lookup (q := 158) (off := 140) dX3_readsStatement_18 (by decide) (st_out hne) (by decide) ?_
    refine V.aload_n (q := 159) dX3_readsStatement_158 rfl rfl ?_
    refine V.dup (q := 160) dX3_readsStatement_159 rfl rfl ?_
    refine V.getI (q := 163) dX3_readsStatement_160 rfl kf_X3_75 rfl (by decide) rfl (show _ = nI (p + 1) from w2_at) ?_
    refine V.iconst (q := 164) (v := nI 1) dX3_readsStatement_163 rfl (by decide +kernel) ?_
    refine V.isubN (q := 165) dX3_readsStatement_164 rfl (by omega) ?_
    refine V.putI (q := 168) dX3_readsStatement_165 rfl kp_X3_75 rfl (by decide) rfl rfl rfl ?_
    refine V.iconst (q := 169) (v := nI 0) dX3_readsStatement_168 rfl (by decide +kernel) ?_
    exact V.ret_int hB dX3_readsStatement_169 (by decide +kernel) ⟨_, rfl, (by
    refine Or.inr ⟨rfl, ?_⟩
    rcases Nat.lt_or_ge p m with hpl | hpl
    · exact ⟨p, by omega, RD.b hR, Gr.rf.p.p, Or.inr ⟨hpl, Rn.rf.fl (Or.inr hpl) (by omega) hdu⟩⟩
    · exact ⟨p, hpm, RD.b hR, Gr.rf.p.p, Or.inl ⟨hpl, rfl⟩⟩)⟩

