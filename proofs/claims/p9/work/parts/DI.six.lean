/-- what a live match says of the reference's row -/
theorem RR_num {cm : Nat → Int32} {cs : Nat → Nat → Nat → Int32} {g : Nat → Int32} {ov : Int32} {k n : Nat} {SB RP RF OC : Nat → Nat} (hk : k ≤ 511) (hR : RRn cm cs g ov k n SB RP RF OC) (hc1 : cm 1 = 0) : dI g = n ∧ dS g = SB n + RP n ∧ dE g = (cm 2).toNatClampNeg ∧ dC g = OC n ∧ dD g = k ∧ dW g = RF n ∧ SB n + RP n ≤ 516 ∧ RP n ≤ 512 ∧ 1 ≤ RP n ∧ (cm 2 = 1 ∨ cm 2 = 2) ∧ (∃ a b, a < 11 ∧ b < 11 ∧ g 6 = nI a ∧ g 7 = nI b ∧ dA g = a ∧ dB g = b ∧ cs n 6 9 = nI a ∧ cs n 6 10 = nI b) ∧ OC n < 20 ∧ RF n ≤ 9 ∧ X9_next_r1 g n = NEX (cs n) ∧ (NEX (cs n) = -1 ∨ ∃ x, x < 11 ∧ NEX (cs n) = nI x ∧ dX g = x) := by
  obtain ⟨hb, hs, hp, hz, h22, h5, h11, hl⟩ := hR
  obtain ⟨b1, b2, b3, b4, b5, b6, b7, b8, b9, b10⟩ := hb
  obtain ⟨⟨hms, hmn, hr1, hrf, hoc, hbw9, ⟨bl, t, L, hbl, ht, hL, hocL, hcf⟩, hbat⟩, h12, hne, hlt⟩ := hl hc1
  have hocl := live_oc hms hcf hL.2 hocL hne
  have hbat2 : BAT (cs n 1) (cs n 6 9) (cs n 6 10) (cs n 6 11) (RF n) := by
    rcases hbat with q | q
    · exact q.2.1
    · rw [h12] at q; exact absurd q (by decide)
  have hrf9 := BAT_falls hbat2
  have hge := SUMS_ge hs (fun j hj => (hp j hj).2.1) n (Nat.le_refl _)
  have hsum := hs.2.2
  have eI : dI g = n := by unfold dI; rw [b9]; exact nI_c (by omega)
  have e1 : g (25 + 11 * n + 1) = nI (RF n) := by rw [← hcf.2.2.2.1, hms.1 1 (by omega), Wn_at (by omega)]
  have e8 : g (25 + 11 * n + 8) = nI (OC n) := hms.2.2.2.2.2.2.2.2.2.1
  have hnx : X9_next_r1 g n = NEX (cs n) := by
    obtain ⟨a, b, _, _, _, _, _, _, _, _, hch⟩ := id hbat2
    exact (next_eq hms.2.1 hmn.2.2.2.2.2.2.2.1 hch).symm
  obtain ⟨a, b, ha, hb', hab, h9, h10, -⟩ := id hbat2
  have g6 : g 6 = nI a := hmn.2.2.2.2.2.1.symm.trans h9
  have g7 : g 7 = nI b := hmn.2.2.2.2.2.2.1.symm.trans h10
  refine ⟨eI, ?_, ?_, ?_, ?_, ?_, by omega, by omega, hr1, ?_, ⟨a, b, ha, hb', g6, g7, ?_, ?_, h9, h10⟩, by omega, hrf9, hnx, ?_⟩
  · unfold dS; rw [h22]; exact nI_c (by omega)
  · unfold dE; rw [b6]
  · unfold dC; rw [eI, e8]; exact nI_c (by omega)
  · unfold dD; rw [b10]; exact nI_c (by omega)
  · unfold dW; rw [eI, e1]; exact nI_c (by omega)
  · rcases b3 with q | q
    · exact Or.inl q.1
    · exact Or.inr q.1
  · unfold dA; rw [g6]; exact nI_c (by omega)
  · unfold dB; rw [g7]; exact nI_c (by omega)
  · rcases next_can hbat2 with q | ⟨x, x1, x2, x3⟩
    · exact Or.inl q
    · refine Or.inr ⟨x, x1, x2, ?_⟩
      unfold dX; rw [eI, hnx, show NEX (cs n) = nI x from x2]; exact nI_c (by omega)
theorem bit_is1 {x : Int32} (h : bitI x) : (if x = 1 then (1 : Int32) else 0) = x := by
  rcases h with h | h <;> rw [h] <;> rfl
theorem VAR_le {cm : Nat → Int32} {n : Nat} (hV : VAR cm) (h4 : cm 4 = nI n) (hn : n < 4) : n + 1 ≤ 2 * (cm 2).toNatClampNeg := by
  rcases hV with ⟨l0, l1 | l1⟩ | ⟨l0, l1 | l1 | l1 | l1⟩
  · have q := (nI_eq (a := n) (b := 0) (by omega) (by omega)).mp (h4.symm.trans l1)
    have e : (cm 2).toNatClampNeg = 1 := by rw [l0]; decide
    omega
  · have q := (nI_eq (a := n) (b := 1) (by omega) (by omega)).mp (h4.symm.trans l1)
    have e : (cm 2).toNatClampNeg = 1 := by rw [l0]; decide
    omega
  · have q := (nI_eq (a := n) (b := 0) (by omega) (by omega)).mp (h4.symm.trans l1)
    have e : (cm 2).toNatClampNeg = 2 := by rw [l0]; decide
    omega
  · have q := (nI_eq (a := n) (b := 1) (by omega) (by omega)).mp (h4.symm.trans l1)
    have e : (cm 2).toNatClampNeg = 2 := by rw [l0]; decide
    omega
  · have q := (nI_eq (a := n) (b := 2) (by omega) (by omega)).mp (h4.symm.trans l1)
    have e : (cm 2).toNatClampNeg = 2 := by rw [l0]; decide
    omega
  · have q := (nI_eq (a := n) (b := 3) (by omega) (by omega)).mp (h4.symm.trans l1)
    have e : (cm 2).toNatClampNeg = 2 := by rw [l0]; decide
    omega
/-- the reference's room for a deed -/
theorem RR_DOK {cm : Nat → Int32} {cs : Nat → Nat → Nat → Int32} {S g : Nat → Int32} {ov : Int32} {k : Nat} (hk : k ≤ 511) (hR : RR cm cs g ov k) (hc1 : cm 1 = 0) (hS : OKS S) (hr : rfR cm cs S = 0) : DOK g (codW S) (cod1 S) (cod2 S) := by
  obtain ⟨n, SB, RP, RF, OC, hR0⟩ := hR
  obtain ⟨eI, eS, eE, eC, eD, eW, s1, s2, s3, he, ⟨a, b, ha, hb, g6, g7, eA, eB, c9, c10⟩, hoc, hrf, hnx, hnx2⟩ := RR_num hk hR0 hc1
  obtain ⟨hb0, hs, hp, hz, h22, h5, h11, hl⟩ := hR0
  obtain ⟨b1, b2, b3, b4, b5, b6, b7, b8, b9, b10⟩ := hb0
  obtain ⟨⟨hms, hmn, hr1, hrf', hoc', hbw9, ⟨bl, t, L, hbl, ht, hL, hocL, hcf⟩, hbat⟩, h12, hne, hlt⟩ := hl hc1
  have e4 : (cm 4).toNatClampNeg = n := by rw [b2]; exact nI_c (by omega)
  have c0 : ¬ cm 0 = 0 := by rw [b4]; decide
  rw [rf_one b3 c0, e4] at hr
  have he2 : dE g = 1 ∨ dE g = 2 := by
    rw [eE]
    rcases he with q | q
    · left; rw [q]; decide
    · right; rw [q]; decide
  have g1 : g 1 = nI (dE g) := by
    rw [eE, b6]
    rcases he with q | q <;> rw [q] <;> rfl
  have eV : n + 1 ≤ 2 * dE g := by rw [eE]; exact VAR_le b3 b2 b1
  have RB : RUNB g := by
    refine ⟨dN_mk b9 (by omega) (by omega), dN_mk g6 ha (by omega), dN_mk g7 hb (by omega), ⟨dN_mk h22 (by omega) (by omega), by rw [eS]; omega⟩, ⟨dN_mk g1 (by omega) (by omega), by omega⟩, by rw [eI]; exact eV, ?_, dN_mk b10 (by omega) (by omega), ?_, ?_, ?_⟩
    · intro q
      rw [eI] at q
      rcases he2 with q2 | q2
      · right
        have e1 : cm 2 = 1 := by rw [← b6, g1, q2]; rfl
        have en : n = 1 := by omega
        subst en
        obtain ⟨r, r1, r2, r3⟩ := (hp 0 (by omega)).2.2.2.2.2.2.1 e1
        have r14 : cs 0 6 8 = g 14 := (hp 0 (by omega)).1.2.2.2.2.2.2.2.2.2.2.2.2.1
        intro z
        have h9 := pos64 r1 r2
        rw [← r3, r14, z] at h9
        exact absurd h9 (by decide)
      · exact Or.inl q2
    · rw [eI]; exact dN_mk hms.2.2.2.2.2.2.2.2.2.1 hoc (by omega)
    · rw [eI]
      exact dN_mk (k := RF n) (by rw [← hcf.2.2.2.1, hms.1 1 (by omega), Wn_at (by omega)]) (by omega) (by omega)
    · rw [eI, hnx]
      rcases hnx2 with q | ⟨x, x1, x2, x3⟩
      · exact Or.inl q
      · exact Or.inr (dN_mk x2 x1 (by omega))
  have hbw : ¬ cs n 6 3 = -1 → dN (g 9) 11 := fun q => by
    rcases hbw9 with z | ⟨bo, z1, z2⟩
    · exact absurd z q
    · exact dN_mk (hmn.2.1.symm.trans z2) z1 (by omega)
  have n30 : ¬ (3 : Int32) = 0 := by decide
  have cw : ∀ m : Nat, m < 8 → S 0 = nI m → codW S = nI m - 1 := fun m _ q => by unfold codW; rw [q]
  rcases hS with ⟨p, h⟩ | ⟨kd, r, h⟩ | ⟨wy, kd, r, h⟩ | h | ⟨p, h⟩ | h | ⟨o, h⟩
  · have w : codW S = 0 := cw 1 (by omega) h.1
    have w1 : cod1 S = nI p := by unfold cod1; rw [h.1, if_neg (by decide), if_neg (by decide), if_neg (by decide)]; exact h.2.2
    rw [w, w1]
    exact ⟨RB, Or.inl ⟨rfl, dN_mk rfl h.2.1 (by omega)⟩, fun q => absurd q (by decide), fun q => absurd q (by decide)⟩
  · have w : codW S = 1 := cw 2 (by omega) h.1
    have w1 : cod1 S = nI kd := by unfold cod1; rw [h.1, if_pos rfl]; exact h.2.2.2.1
    rw [w, w1]
    rw [rf_2 c0 hc1 h.1] at hr
    refine ⟨RB, Or.inr (Or.inl ⟨rfl, dN_mk rfl h.2.1 (by omega)⟩), fun _ => hbw (fun q => ?_), fun q => absurd q (by decide)⟩
    rw [if_pos q] at hr; exact n30 hr
  · have w : codW S = 2 := cw 3 (by omega) h.1
    have w2 : cod2 S = nI kd := by unfold cod2; rw [h.1, if_neg (by decide), if_pos rfl]; exact h.2.2.2.2.2.1
    rw [w, w2]
    rw [rf_3 c0 hc1 h.1] at hr
    refine ⟨RB, Or.inr (Or.inr (Or.inl ⟨rfl, dN_mk rfl (by have := h.2.2.1; omega) (by omega)⟩)), fun _ => hbw (fun q => ?_), fun q => absurd q (by decide)⟩
    rw [if_pos q] at hr; exact n30 hr
  · have w : codW S = 3 := cw 4 (by omega) h.1
    rw [w]
    exact ⟨RB, Or.inr (Or.inr (Or.inr (Or.inl rfl))), fun q => absurd q (by decide), fun q => absurd q (by decide)⟩
  · have w : codW S = 4 := cw 5 (by omega) h.1
    have w1 : cod1 S = nI p := by unfold cod1; rw [h.1, if_neg (by decide), if_neg (by decide), if_neg (by decide)]; exact h.2.2
    rw [w, w1]
    exact ⟨RB, Or.inr (Or.inr (Or.inr (Or.inr (Or.inl ⟨rfl, dN_mk rfl h.2.1 (by omega)⟩)))), fun q => absurd q (by decide), fun q => absurd q (by decide)⟩
  · have w : codW S = 5 := cw 6 (by omega) h.1
    rw [w]
    exact ⟨RB, Or.inr (Or.inr (Or.inr (Or.inr (Or.inr (Or.inl rfl))))), fun q => absurd q (by decide), fun q => absurd q (by decide)⟩
  · have w : codW S = 6 := cw 7 (by omega) h.1
    rw [w]
    rw [rf_7 c0 hc1 h.1] at hr
    refine ⟨RB, Or.inr (Or.inr (Or.inr (Or.inr (Or.inr (Or.inr rfl))))), fun q => absurd q (by decide), fun _ => ?_⟩
    rw [eE]
    rcases he with q | q
    · rw [q]; decide
    · rw [if_neg (show ¬ cm 2 = 1 by rw [q]; decide)] at hr
      exact absurd hr (by decide)
