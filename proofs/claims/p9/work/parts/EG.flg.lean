/-! THE CHAIN, BY THE REFERENCE ALONE -/
theorem outP {i s p : Nat} (hi : i < 4) (hp : p = 24 ∨ p = 1 ∨ p = 2 ∨ p = 3) : OUTR i s p := by unfold OUTR; omega
theorem lkP {g : Nat → Int32} {al dl : Int32} {i e s p : Nat} (hp : p = 24 ∨ p = 1 ∨ p = 2 ∨ p = 3) (hi : i < 4) (hie : i + 1 ≤ 2 * e) (he : e ≤ 2) : X9_looks_g11 g al dl i e s p = g p := by
  have h5 : X9_looks_g5 g al dl i e p = g p := upd_off (by omega)
  have h6 : X9_looks_g6 g al dl i e p = g p := (upd_off (by omega)).trans h5
  unfold X9_looks_g11
  split
  · exact h5
  unfold X9_looks_g10
  split
  · exact h6
  rename_i hn
  have hi4 : i + 1 < 4 := by
    rcases Nat.lt_or_ge (i + 1) (2 * e) with q | q
    · omega
    · exact absurd (show nI i = nI (2 * e - 1) by congr 1; omega) hn
  have ho : X9_opens_g37 (X9_looks_g5 g al dl i e) (i + 1) s p = g p := (fr_opens hi4 (by omega) (outP hi4 hp)).trans h5
  unfold X9_looks_g9
  split
  · unfold X9_looks_g8
    split
    · unfold X9_looks_g7
      split
      · exact ho
      · exact h6
    · exact ho
  · exact ho
theorem DSG_p {cm : Nat → Int32} {cs : Nat → Nat → Nat → Int32} {S g : Nat → Int32} {ov : Int32} {k p9 : Nat} (hp9 : p9 = 24 ∨ p9 = 1 ∨ p9 = 2 ∨ p9 = 3) (hk : k ≤ 511) (hR : RR cm cs g ov k) (hS : OKS S) (hr : rfR cm cs S = 0) : DSG S g p9 = g p9 := by
  have hc1 := RR_goes hR hr
  have hD := RR_DOK hk hR hc1 hS hr
  obtain ⟨n, SB, RP, RF, OC, hR0⟩ := hR
  obtain ⟨eI, eS, eE, eC, eD, eW, s1, s2, s3, he, ⟨a, b, ha, hb, g6, g7, eA, eB, c9, c10⟩, hoc, hrf, hnx, hnx2⟩ := RR_num hk hR0 hc1
  obtain ⟨hb0, -⟩ := hR0
  obtain ⟨b1, b2, b3, -⟩ := hb0
  have hie := VAR_le b3 b2 b1
  have he2 : (cm 2).toNatClampNeg ≤ 2 := by rcases he with q | q <;> rw [q] <;> decide
  have L : ∀ (q : Nat → Int32) (al dl : Int32) (s : Nat), X9_looks_g11 q al dl n (cm 2).toNatClampNeg s p9 = q p9 := fun q al dl s => lkP hp9 b1 hie he2
  have bo11 : codW S = 1 ∨ codW S = 2 → dO g < 11 := fun q => (hD.2.2.1 q).2
  have o24 : OUTR n (SB n + RP n) p9 := outP b1 hp9
  have hwl : (if S 5 = 0 then a else b) < 11 := by split <;> omega
  rcases hS with ⟨p, h⟩ | ⟨kd, r, h⟩ | ⟨wy, kd, r, h⟩ | h | ⟨p, h⟩ | h | ⟨o, h⟩
  · rw [(RFG_1 (g := g) h).2.1]
    exact (upd_off (by omega)).trans (upd_off (by omega))
  · have hbo := bo11 (Or.inl (by unfold codW; rw [h.1]; rfl))
    rw [(RFG_2 (g := g) h).2.1, eI, eA, eS, eC, eE, eD, e_1 h.2.2.2.2.2, L, fr_completes b1 hbo hoc o24, fr_bowled1 b1 ha hbo h.2.1 o24]
    exact upd_off (by omega)
  · have hbo := bo11 (Or.inr (by unfold codW; rw [h.1]; rfl))
    obtain ⟨h0, hwy, hkd, hr3, h2, h3, h4, h5', h6, h7⟩ := h
    rw [(RFG_3 (g := g) ⟨h0, hwy, hkd, hr3, h2, h3, h4, h5', h6, h7⟩).2.1, eI, eA, eB, eS, eC, eW, eE, eD, hnx]
    rcases hnx2 with q | ⟨x, hx, q, ex⟩
    · rw [if_pos q, e_2N h4 h5' h7, L, fr_completes b1 hbo hoc o24, fr_leavesN hwl o24, fr_gWK b1 ha hbo (by omega) hwl (by omega) o24]
      exact upd_off (by omega)
    · rw [if_neg (show ¬ NEX (cs n) = -1 by rw [q]; exact nI_neg (by omega)), e_2S h4 h5' h7, ex, L, fr_completes b1 hbo hoc o24, fr_leavesS hwl hx o24, fr_gWK b1 ha hbo (by omega) hwl (by omega) o24]
      exact upd_off (by omega)
  · obtain ⟨h0, h5', h8⟩ := h
    rw [(RFG_4 (g := g) ⟨h0, h5', h8⟩).2.1, eI, eA, eB, eS, eE, eD, hnx]
    rcases hnx2 with q | ⟨x, hx, q, ex⟩
    · rw [if_pos q, e_3N h5' h8, L, fr_leavesN hwl o24]
      exact upd_off (by omega)
    · rw [if_neg (show ¬ NEX (cs n) = -1 by rw [q]; exact nI_neg (by omega)), e_3S h5' h8, ex, L, fr_leavesS hwl hx o24]
      exact upd_off (by omega)
  · rw [(RFG_5 (g := g) h).2.1]
    exact (upd_off (by omega)).trans (upd_off (by omega))
  · rw [(RFG_6 (g := g) h).2.1, eI, eS, eE, eD]
    unfold X9_does5_g8
    rw [L]
    exact upd_off (by omega)
  · rw [(RFG_7 (g := g) h).2.1, eI, eS, eE, eD]
    unfold X9_does6_g8 X9_loses_g4
    rw [L, fr_loses o24]
    exact upd_off (by omega)
theorem CHN_123 {lo le lfi : Int32} {SS : Nat → Nat → Int32} (hb : BEG lo le) : ∀ n, n ≤ 512 → ∀ g, CHN lo le lfi SS n g → g 1 = le ∧ g 2 = lfi ∧ g 3 = lo := by
  intro n
  induction n with
  | zero =>
    intro _ g hg
    obtain ⟨g0, hg0⟩ := hg
    have glo : ∀ p, p < 6 → p ≠ 4 → X9_begins_g4 g0 lo le lfi p = X9_begins_g3 g0 lo le lfi p := fun p q1 q2 => fr_opens (by omega) q2 (by unfold OUTR; omega)
    refine ⟨?_, ?_, ?_⟩
    · rw [hg0 1 (by omega) (by omega), glo 1 (by omega) (by omega), X9_begins_g3, upd_off (by omega), X9_begins_g2, upd_off (by omega), X9_begins_g1, upd_at]
    · rw [hg0 2 (by omega) (by omega), glo 2 (by omega) (by omega), X9_begins_g3, upd_off (by omega), X9_begins_g2, upd_at]
    · rw [hg0 3 (by omega) (by omega), glo 3 (by omega) (by omega), X9_begins_g3, upd_at]
  | succ n ih =>
    intro hn g hg
    obtain ⟨h, h1, h2, h3, h4⟩ := hg
    have hR := CHN_RR hb (fun _ => 0) (fun _ _ _ => 0) n (by omega) h h1
    have hr := (ref_eq hR h2).trans h3
    obtain ⟨i1, i2, i3⟩ := ih (by omega) h h1
    exact ⟨((h4 1 (by omega) (by omega)).trans (DSG_p (by omega) (by omega) hR h2 hr)).trans i1, ((h4 2 (by omega) (by omega)).trans (DSG_p (by omega) (by omega) hR h2 hr)).trans i2, ((h4 3 (by omega) (by omega)).trans (DSG_p (by omega) (by omega) hR h2 hr)).trans i3⟩
theorem CHN_fl {lo le lfi : Int32} {SS : Nat → Nat → Int32} (hb : BEG lo le) (g0 : Nat → Int32) : ∀ n, n ≤ 512 → ∀ g, CHN lo le lfi SS n g → CHN lo le lfi SS n (flG SS (X9_begins_g4 g0 lo le lfi) n) := by
  intro n
  induction n with
  | zero => intro _ g _; exact ⟨g0, fun _ _ _ => rfl⟩
  | succ n ih =>
    intro hn g hg
    obtain ⟨h, h1, h2, h3, h4⟩ := hg
    have C := ih (by omega) h h1
    have hR := CHN_RR hb (fun _ => 0) (fun _ _ _ => 0) n (by omega) h h1
    have hR2 := CHN_RR hb (fun _ => 0) (fun _ _ _ => 0) n (by omega) _ C
    exact ⟨_, C, h2, (ref_eq hR2 h2).symm.trans ((ref_eq hR h2).trans h3), fun p _ _ => rfl⟩
theorem rp_fl {SS : Nat → Nat → Int32} {n : Nat} {gd G : Nat → Int32} (h : DED SS n gd) : ∀ j, j ≤ n → rpG gd G j = flG SS G j := by
  intro j
  induction j with
  | zero => intro _; rfl
  | succ j ih =>
    intro hj
    obtain ⟨d0, d1, d2, d3, d4, d5⟩ := h j (by omega)
    show doesG _ _ _ _ _ _ _ = DSG (SS j) (flG SS G j)
    rw [d0, d1, d2, d3, d4, d5, ih (by omega)]
    rfl
/-- what the reference's replay finds on its way -/
theorem rp_ok {lo le lfi : Int32} {nS nC : Nat} {E : Nat → Nat} {ge : Nat → Int32} {SS : Nat → Nat → Int32} {g gd : Nat → Int32} (h : JLOG lo le lfi nS nC E ge SS g gd) (j : Nat) (hj : j < nS) : DOK (rpG gd (X9_begins_g4 g (g 3) (g 1) (g 2)) j) (gd (6 * j)) (gd (6 * j + 1)) (gd (6 * j + 2)) ∧ dD (rpG gd (X9_begins_g4 g (g 3) (g 1) (g 2)) j) = j := by
  obtain ⟨hb, hn, hc, h24, hE, hd⟩ := h
  obtain ⟨e1, e2, e3⟩ := CHN_123 hb nS hn g hc
  obtain ⟨d0, d1, d2, -⟩ := hd j hj
  rw [e1, e2, e3, rp_fl hd j (by omega), d0, d1, d2]
  obtain ⟨z, hz⟩ := CHN_pre nS g hc (j + 1) (by omega)
  have C := CHN_fl hb g (j + 1) (by omega) z hz
  obtain ⟨y, y1, y2, y3, y4⟩ := hz
  have C0 := CHN_fl hb g j (by omega) y y1
  have hR := CHN_RR hb (fun _ => 0) (fun _ _ _ => 0) j (by omega) y y1
  have hR2 := CHN_RR hb (fun _ => 0) (fun _ _ _ => 0) j (by omega) _ C0
  have hr := (ref_eq hR y2).trans y3
  refine ⟨RR_DOK (by omega) hR2 (RR_goes hR2 hr) y2 hr, ?_⟩
  obtain ⟨n, SB, RP, RF, OC, ⟨b1, b2, b3, b4, b5, b6, b7, b8, b9, b10⟩, -⟩ := hR2
  unfold dD
  rw [b10]; exact nI_c (by omega)
