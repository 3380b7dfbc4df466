/-! what a command finds, match or none -/
theorem out24 {i s : Nat} (hi : i < 4) : OUTR i s 24 := by unfold OUTR; omega
theorem lk24 {g : Nat → Int32} {al dl : Int32} {i e s : Nat} (hi : i < 4) (hie : i + 1 ≤ 2 * e) (he : e ≤ 2) : X9_looks_g11 g al dl i e s 24 = g 24 := by
  have h5 : X9_looks_g5 g al dl i e 24 = g 24 := upd_off (by omega)
  have h6 : X9_looks_g6 g al dl i e 24 = g 24 := (upd_off (by omega)).trans h5
  unfold X9_looks_g11
  split
  · exact h5
  unfold X9_looks_g10
  split
  · exact h6
  rename_i hn
  have hi4 : i + 1 < 4 := by
    rcases Nat.lt_or_ge (i + 1) (2 * e) with q | q
    · omega
    · exact absurd (show nI i = nI (2 * e - 1) by congr 1; omega) hn
  have ho : X9_opens_g37 (X9_looks_g5 g al dl i e) (i + 1) s 24 = g 24 := (fr_opens hi4 (by omega) (out24 hi4)).trans h5
  unfold X9_looks_g9
  split
  · unfold X9_looks_g8
    split
    · unfold X9_looks_g7
      split
      · exact ho
      · exact h6
    · exact ho
  · exact ho
theorem DSG_24 {cm : Nat → Int32} {cs : Nat → Nat → Nat → Int32} {S g : Nat → Int32} {ov : Int32} {k : Nat} (hk : k ≤ 511) (hR : RR cm cs g ov k) (hS : OKS S) (hr : rfR cm cs S = 0) : DSG S g 24 = g 24 := by
  have hc1 := RR_goes hR hr
  have hD := RR_DOK hk hR hc1 hS hr
  obtain ⟨n, SB, RP, RF, OC, hR0⟩ := hR
  obtain ⟨eI, eS, eE, eC, eD, eW, s1, s2, s3, he, ⟨a, b, ha, hb, g6, g7, eA, eB, c9, c10⟩, hoc, hrf, hnx, hnx2⟩ := RR_num hk hR0 hc1
  obtain ⟨hb0, -⟩ := hR0
  obtain ⟨b1, b2, b3, -⟩ := hb0
  have hie := VAR_le b3 b2 b1
  have he2 : (cm 2).toNatClampNeg ≤ 2 := by rcases he with q | q <;> rw [q] <;> decide
  have L : ∀ (q : Nat → Int32) (al dl : Int32) (s : Nat), X9_looks_g11 q al dl n (cm 2).toNatClampNeg s 24 = q 24 := fun q al dl s => lk24 b1 hie he2
  have bo11 : codW S = 1 ∨ codW S = 2 → dO g < 11 := fun q => (hD.2.2.1 q).2
  have o24 : OUTR n (SB n + RP n) 24 := out24 b1
  have hwl : (if S 5 = 0 then a else b) < 11 := by split <;> omega
  rcases hS with ⟨p, h⟩ | ⟨kd, r, h⟩ | ⟨wy, kd, r, h⟩ | h | ⟨p, h⟩ | h | ⟨o, h⟩
  · rw [(RFG_1 (g := g) h).2.1]
    exact (upd_off (by omega)).trans (upd_off (by omega))
  · have hbo := bo11 (Or.inl (by unfold codW; rw [h.1]; rfl))
    rw [(RFG_2 (g := g) h).2.1, eI, eA, eS, eC, eE, eD, e_1 h.2.2.2.2.2, L, fr_completes b1 hbo hoc o24, fr_bowled1 b1 ha hbo h.2.1 o24]
    exact upd_off (by omega)
  · have hbo := bo11 (Or.inr (by unfold codW; rw [h.1]; rfl))
    obtain ⟨h0, hwy, hkd, hr3, h2, h3, h4, h5', h6, h7⟩ := h
    rw [(RFG_3 (g := g) ⟨h0, hwy, hkd, hr3, h2, h3, h4, h5', h6, h7⟩).2.1, eI, eA, eB, eS, eC, eW, eE, eD, hnx]
    rcases hnx2 with q | ⟨x, hx, q, ex⟩
    · rw [if_pos q, e_2N h4 h5' h7, L, fr_completes b1 hbo hoc o24, fr_leavesN hwl o24, fr_gWK b1 ha hbo (by omega) hwl (by omega) o24]
      exact upd_off (by omega)
    · rw [if_neg (show ¬ NEX (cs n) = -1 by rw [q]; exact nI_neg (by omega)), e_2S h4 h5' h7, ex, L, fr_completes b1 hbo hoc o24, fr_leavesS hwl hx o24, fr_gWK b1 ha hbo (by omega) hwl (by omega) o24]
      exact upd_off (by omega)
  · obtain ⟨h0, h5', h8⟩ := h
    rw [(RFG_4 (g := g) ⟨h0, h5', h8⟩).2.1, eI, eA, eB, eS, eE, eD, hnx]
    rcases hnx2 with q | ⟨x, hx, q, ex⟩
    · rw [if_pos q, e_3N h5' h8, L, fr_leavesN hwl o24]
      exact upd_off (by omega)
    · rw [if_neg (show ¬ NEX (cs n) = -1 by rw [q]; exact nI_neg (by omega)), e_3S h5' h8, ex, L, fr_leavesS hwl hx o24]
      exact upd_off (by omega)
  · rw [(RFG_5 (g := g) h).2.1]
    exact (upd_off (by omega)).trans (upd_off (by omega))
  · rw [(RFG_6 (g := g) h).2.1, eI, eS, eE, eD]
    unfold X9_does5_g8
    rw [L]
    exact upd_off (by omega)
  · rw [(RFG_7 (g := g) h).2.1, eI, eS, eE, eD]
    unfold X9_does6_g8 X9_loses_g4
    rw [L, fr_loses o24]
    exact upd_off (by omega)
theorem wk6 {a b c d e : Int32} : X9_refusesWicket_n11 a b c d e ≤ 8 := by
  have h7 : X9_refusesWicket_n7 a e ≤ 8 := by
    unfold X9_refusesWicket_n7
    split
    · omega
    unfold X9_refusesWicket_n6
    split
    · unfold X9_refusesWicket_n5
      split <;> omega
    · omega
  unfold X9_refusesWicket_n11
  split
  · omega
  unfold X9_refusesWicket_n10
  split
  · unfold X9_refusesWicket_n9
    split
    · unfold X9_refusesWicket_n8
      split
      · omega
      · exact h7
    · omega
  · exact h7
/-- the reference's refusal is a number -/
theorem RFG_nat {S g : Nat → Int32} (hS : OKS S) : ∃ n, n ≤ 8 ∧ RFG S g = nI n := by
  have hm : X9_noMatch_x1 g = nI 0 ∨ X9_noMatch_x1 g = nI 1 := by
    unfold X9_noMatch_x1
    split
    · exact Or.inr rfl
    unfold X9_noMatch_x0
    split
    · exact Or.inr rfl
    · exact Or.inl rfl
  have hm2 : ∃ n, n ≤ 8 ∧ X9_noMatch_x1 g = nI n := by
    rcases hm with q | q
    · exact ⟨0, by omega, q⟩
    · exact ⟨1, by omega, q⟩
  have hb : X9_refusesBall_n1 g ≤ 8 := by
    unfold X9_refusesBall_n1
    split
    · omega
    unfold X9_refusesBall_n0
    split <;> omega
  rcases hS with ⟨p, h⟩ | ⟨kd, r, h⟩ | ⟨wy, kd, r, h⟩ | h | ⟨p, h⟩ | h | ⟨o, h⟩
  · rw [(RFG_1 (g := g) h).1]
    unfold X9_refusesBowl_r2
    split
    · exact ⟨1, by omega, rfl⟩
    split
    · refine ⟨_, ?_, rfl⟩
      unfold X9_refusesBowl_n1
      split
      · omega
      unfold X9_refusesBowl_n0
      split <;> omega
    · exact ⟨2, by omega, rfl⟩
  · rw [(RFG_2 (g := g) h).1]
    exact ⟨_, hb, rfl⟩
  · rw [(RFG_3 (g := g) h).1]
    unfold X9_refuses2_r2 X9_refusesWicket_r12
    split
    · exact ⟨_, wk6, rfl⟩
    · exact ⟨_, hb, rfl⟩
  · rw [(RFG_4 (g := g) h).1]; exact hm2
  · rw [(RFG_5 (g := g) h).1]
    refine ⟨_, ?_, rfl⟩
    unfold X9_refuses4_n1
    split
    · omega
    unfold X9_refuses4_n0
    split <;> omega
  · rw [(RFG_6 (g := g) h).1]; exact hm2
  · rw [(RFG_7 (g := g) h).1]
    refine ⟨_, ?_, rfl⟩
    unfold X9_refuses6_n2
    split
    · omega
    unfold X9_refuses6_n1
    split
    · omega
    unfold X9_refuses6_n0
    split <;> omega
theorem RFG_le {S g : Nat → Int32} (hS : OKS S) : RFG S g ≤ 0 ↔ RFG S g = 0 := by
  obtain ⟨n, hn, e⟩ := RFG_nat (g := g) hS
  rw [e]
  exact ⟨fun q => by
    have := (nI_leI (a := n) (b := 0) (by omega) (by omega)).mp q
    have e0 : n = 0 := by omega
    rw [e0]; rfl, fun q => by rw [q]; decide⟩
/-- no match: the refusal is 1 -/
theorem RFG_none {S g : Nat → Int32} (hS : OKS S) (h0 : g 0 = 0) : RFG S g = 1 := by
  have hm : X9_noMatch_x1 g = 1 := by unfold X9_noMatch_x1; exact if_pos h0
  have hb : X9_refusesBall_r2 g = 1 := by
    unfold X9_refusesBall_r2 X9_refusesBall_n1
    rw [if_pos hm]; rfl
  rcases hS with ⟨p, h⟩ | ⟨kd, r, h⟩ | ⟨wy, kd, r, h⟩ | h | ⟨p, h⟩ | h | ⟨o, h⟩
  · rw [(RFG_1 (g := g) h).1]
    unfold X9_refusesBowl_r2
    exact if_pos hm
  · rw [(RFG_2 (g := g) h).1]; exact hb
  · rw [(RFG_3 (g := g) h).1]
    unfold X9_refuses2_r2 X9_refusesWicket_r12
    rw [hb]
    exact if_neg (by decide)
  · rw [(RFG_4 (g := g) h).1]; exact hm
  · rw [(RFG_5 (g := g) h).1]
    unfold X9_refuses4_r2 X9_refuses4_n1
    rw [if_pos hm]; rfl
  · rw [(RFG_6 (g := g) h).1]; exact hm
  · rw [(RFG_7 (g := g) h).1]
    unfold X9_refuses6_r3 X9_refuses6_n2
    rw [if_pos hm]; rfl
theorem rfR_none {cm S : Nat → Int32} {cs : Nat → Nat → Nat → Int32} (h : cm 0 = 0) : rfR cm cs S = 1 := by
  unfold rfR
  exact if_pos h
theorem OKS_PAR {S : Nat → Int32} (hS : OKS S) : PAR (codW S) (cod1 S) (cod2 S) := by
  unfold PAR codW cod1 cod2
  rcases hS with ⟨p, h⟩ | ⟨kd, r, h⟩ | ⟨wy, kd, r, h⟩ | h | ⟨p, h⟩ | h | ⟨o, h⟩
  · rw [h.1]; exact Or.inl ⟨rfl, dN_mk h.2.2 h.2.1 (by omega)⟩
  · rw [h.1]; exact Or.inr (Or.inl ⟨rfl, dN_mk h.2.2.2.1 h.2.1 (by omega)⟩)
  · rw [h.1]; exact Or.inr (Or.inr (Or.inl ⟨rfl, dN_mk h.2.2.2.2.2.1 (by have := h.2.2.1; omega) (by omega)⟩))
  · rw [h.1]; exact Or.inr (Or.inr (Or.inr (Or.inl rfl)))
  · rw [h.1]; exact Or.inr (Or.inr (Or.inr (Or.inr (Or.inl ⟨rfl, dN_mk h.2.2 h.2.1 (by omega)⟩))))
  · rw [h.1]; exact Or.inr (Or.inr (Or.inr (Or.inr (Or.inr (Or.inl rfl)))))
  · rw [h.1]; exact Or.inr (Or.inr (Or.inr (Or.inr (Or.inr (Or.inr rfl)))))
/-- no match, or one -/
def JM (cm : Nat → Int32) (cs : Nat → Nat → Nat → Int32) (lo le lfi : Int32) (w nS nC : Nat) (ge : Nat → Int32) (SS : Nat → Nat → Int32) (g gp gd : Nat → Int32) : Prop := (le = 0 ∧ cm 0 = 0 ∧ (∀ p, p < 6441 → g p = 0) ∧ nS = 0 ∧ nC = 0 ∧ w = 0) ∨ JL cm cs lo le lfi w nS nC ge SS g gp gd
theorem JM_ref {cm : Nat → Int32} {cs : Nat → Nat → Nat → Int32} {lo le lfi : Int32} {w nS nC : Nat} {ge : Nat → Int32} {SS : Nat → Nat → Int32} {g gp gd S : Nat → Int32} (h : JM cm cs lo le lfi w nS nC ge SS g gp gd) (hS : OKS S) : rfR cm cs S = RFG S g := by
  rcases h with ⟨-, h0, hg, -⟩ | h
  · rw [rfR_none h0, RFG_none hS (hg 0 (by omega))]
  · exact ref_eq (JL_RR h) hS
theorem JM_w {cm : Nat → Int32} {cs : Nat → Nat → Nat → Int32} {lo le lfi : Int32} {w nS nC : Nat} {ge : Nat → Int32} {SS : Nat → Nat → Int32} {g gp gd : Nat → Int32} (h : JM cm cs lo le lfi w nS nC ge SS g gp gd) : w ≤ 8 := by
  rcases h with ⟨-, -, -, -, -, h⟩ | h
  · omega
  · exact h.2.1
theorem JM_nC {cm : Nat → Int32} {cs : Nat → Nat → Nat → Int32} {lo le lfi : Int32} {w nS nC : Nat} {ge : Nat → Int32} {SS : Nat → Nat → Int32} {g gp gd : Nat → Int32} (h : JM cm cs lo le lfi w nS nC ge SS g gp gd) : nC ≤ nS := by
  rcases h with ⟨-, -, -, h1, h2, -⟩ | ⟨⟨E, h, -⟩, -⟩
  · omega
  · exact JLOG_nC h
theorem JM_4 {cm : Nat → Int32} {cs : Nat → Nat → Nat → Int32} {lo le lfi : Int32} {w nS nC : Nat} {ge : Nat → Int32} {SS : Nat → Nat → Int32} {g gp gd : Nat → Int32} (h : JM cm cs lo le lfi w nS nC ge SS g gp gd) : dN (g 4) 4 := by
  rcases h with ⟨-, -, hg, -⟩ | h
  · exact dN_mk (k := 0) (hg 4 (by omega)) (by omega) (by omega)
  · obtain ⟨n, SB, RP, RF, OC, ⟨b1, b2, b3, b4, b5, b6, b7, b8, b9, b10⟩, -⟩ := JL_RR h
    exact dN_mk b9 b1 (by omega)
theorem JM_PX {cm : Nat → Int32} {cs : Nat → Nat → Nat → Int32} {lo le lfi : Int32} {w nS nC : Nat} {ge : Nat → Int32} {SS : Nat → Nat → Int32} {g gp gd : Nat → Int32} (h : JM cm cs lo le lfi w nS nC ge SS g gp gd) (hk : nS ≤ 511) : cm 0 = 0 ∨ PP cm cs := by
  rcases h with ⟨-, h0, -⟩ | h
  · exact Or.inl h0
  · exact Or.inr (RR_PP hk (JL_RR h))
/-- a step that is not refused: there is a match -/
theorem JM_live {cm : Nat → Int32} {cs : Nat → Nat → Nat → Int32} {lo le lfi : Int32} {w nS nC : Nat} {ge : Nat → Int32} {SS : Nat → Nat → Int32} {g gp gd S : Nat → Int32} (h : JM cm cs lo le lfi w nS nC ge SS g gp gd) (hr : rfR cm cs S = 0) : JL cm cs lo le lfi w nS nC ge SS g gp gd := by
  rcases h with ⟨-, h0, -⟩ | h
  · rw [rfR_none h0] at hr; exact absurd hr (by decide)
  · exact h
/-- one step is taken: all of it -/
theorem JM_step {cm : Nat → Int32} {cs : Nat → Nat → Nat → Int32} {lo le lfi : Int32} {w nS nC : Nat} {ge : Nat → Int32} {SS : Nat → Nat → Int32} {g gp gd S : Nat → Int32} (h : JM cm cs lo le lfi w nS nC ge SS g gp gd) (hS : OKS S) (hk : nS ≤ 511) (hr : rfR cm cs S = 0) : JM (pfM cm cs S) (pfS cm cs S) lo le lfi (kpN w) (nS + 1) (nC + 1) (upd ge nC (nI (nS + 1))) (jn SS (fun _ => S) nS) (upd (DSG S g) 24 ((DSG S g 24) + 1)) (kpG gp g w) (doesD (codW S) (cod1 S) (cod2 S) (cod3 S) (cod4 S) (cod5 S) gd (dD g)) ∧ pfR cm cs S = DSR S g ∧ DOK g (codW S) (cod1 S) (cod2 S) ∧ PP cm cs := by
  have hL := JM_live h hr
  have hR := JL_RR hL
  have hc1 := RR_goes hR hr
  have hg : RFG S g = 0 := (ref_eq hR hS).symm.trans hr
  have h24 : g 24 = nI nC := by
    obtain ⟨⟨E, h9, -⟩, -⟩ := hL
    exact h9.2.2.2.1
  have hD : dD g = nS := by
    obtain ⟨n, SB, RP, RF, OC, ⟨b1, b2, b3, b4, b5, b6, b7, b8, b9, b10⟩, -⟩ := hR
    unfold dD; rw [b10]; exact nI_c (by omega)
  refine ⟨Or.inr (JL_app (P := fun _ => S) (N := 1) hL (Nat.le_refl _) (by omega) (fun _ _ => hS) (fun j hj => ?_) (fun p hp hp2 => upd_off hp2) ?_ (fun _ _ => rfl) (fun p hp => ?_) (fun j hj => ?_)), (STEP hk hR hc1 hS hr).2, RR_DOK hk hR hc1 hS hr, RR_PP hk hR⟩
  · have e : j = 0 := by omega
    subst e; exact hg
  · rw [upd_at, DSG_24 hk hR hS hr, h24]; exact nI_add _ 1
  · rw [hD]
    unfold doesD
    rw [upd_off (by omega), upd_off (by omega), upd_off (by omega), upd_off (by omega), upd_off (by omega), upd_off (by omega)]
  · have e : j = 0 := by omega
    subst e
    rw [hD]
    unfold doesD
    refine ⟨?_, ?_, ?_, ?_, ?_, ?_⟩
    · rw [upd_off (by omega), upd_off (by omega), upd_off (by omega), upd_off (by omega), upd_off (by omega)]; exact upd_at
    · rw [upd_off (by omega), upd_off (by omega), upd_off (by omega), upd_off (by omega)]; exact upd_at
    · rw [upd_off (by omega), upd_off (by omega), upd_off (by omega)]; exact upd_at
    · rw [upd_off (by omega), upd_off (by omega)]; exact upd_at
    · rw [upd_off (by omega)]; exact upd_at
    · exact upd_at
