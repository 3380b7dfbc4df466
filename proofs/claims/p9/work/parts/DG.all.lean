/-! STEPS and DEEDS -/
def codW (S : Nat → Int32) : Int32 := S 0 - 1
def cod1 (S : Nat → Int32) : Int32 := if S 0 = 2 then S 3 else if S 0 = 3 then S 2 else if S 0 = 4 then S 5 else S 1
def cod2 (S : Nat → Int32) : Int32 := if S 0 = 2 then S 4 else if S 0 = 3 then S 3 else if S 0 = 4 then S 8 else 0
def cod3 (S : Nat → Int32) : Int32 := if S 0 = 2 then S 6 else if S 0 = 3 then S 5 else 0
def cod4 (S : Nat → Int32) : Int32 := if S 0 = 3 then S 4 else 0
def cod5 (S : Nat → Int32) : Int32 := if S 0 = 3 then S 7 else 0
def DSG (S g : Nat → Int32) : Nat → Int32 := doesG (codW S) (cod1 S) (cod2 S) (cod3 S) (cod4 S) (cod5 S) g
def DSR (S g : Nat → Int32) : Int32 := doesR (codW S) (cod1 S) (cod2 S) (cod3 S) (cod4 S) (cod5 S) g
def RFG (S g : Nat → Int32) : Int32 := refusesR (codW S) (cod1 S) (cod2 S) (cod3 S) (cod4 S) (cod5 S) g
def bitI (x : Int32) : Prop := x = 0 ∨ x = 1
def OK1 (S : Nat → Int32) (p : Nat) : Prop := S 0 = 1 ∧ p < 11 ∧ S 1 = nI p
def OK2 (S : Nat → Int32) (kd r : Nat) : Prop := S 0 = 2 ∧ kd < 5 ∧ r ≤ 6 ∧ S 3 = nI kd ∧ S 4 = nI r ∧ bitI (S 6)
def OK3 (S : Nat → Int32) (wy kd r : Nat) : Prop := S 0 = 3 ∧ wy < 6 ∧ kd < 3 ∧ r ≤ 3 ∧ S 2 = nI wy ∧ S 3 = nI kd ∧ S 4 = nI r ∧ bitI (S 5) ∧ S 6 = 0 ∧ bitI (S 7)
def OK4 (S : Nat → Int32) : Prop := S 0 = 4 ∧ bitI (S 5) ∧ bitI (S 8)
def OK5 (S : Nat → Int32) (p : Nat) : Prop := S 0 = 5 ∧ p < 11 ∧ S 1 = nI p
def OK6 (S : Nat → Int32) : Prop := S 0 = 6 ∧ S 1 = 0
def OK7 (S : Nat → Int32) (o : Nat) : Prop := S 0 = 7 ∧ 1 ≤ o ∧ o < 20 ∧ S 1 = nI o
def OKS (S : Nat → Int32) : Prop := (∃ p, OK1 S p) ∨ (∃ kd r, OK2 S kd r) ∨ (∃ wy kd r, OK3 S wy kd r) ∨ OK4 S ∨ (∃ p, OK5 S p) ∨ OK6 S ∨ (∃ o, OK7 S o)
theorem RFG_1 {S g : Nat → Int32} {p : Nat} (h : OK1 S p) : RFG S g = X9_refusesBowl_r2 g p (dI g) ∧ DSG S g = X9_does0_g7 g p (dD g) ∧ DSR S g = X9_does0_r8 g p (dI g) (dD g) := by
  obtain ⟨h0, hp, h1⟩ := h
  have e : (nI p).toNatClampNeg = p := nI_c (by omega)
  unfold RFG DSG DSR refusesR doesG doesR codW cod1
  rw [h0, h1]
  simp only [show ((1 : Int32) - 1 = 0) = True from by decide, show ((1 : Int32) = 2) = False from by decide, show ((1 : Int32) = 3) = False from by decide, show ((1 : Int32) = 4) = False from by decide, if_true, if_false, e]
  exact ⟨trivial, trivial, trivial⟩
theorem RFG_2 {S g : Nat → Int32} {kd r : Nat} (h : OK2 S kd r) : RFG S g = X9_refusesBall_r2 g ∧ DSG S g = X9_does1_g8 g kd (nI r) (S 6) (dI g) (dA g) (dO g) (dS g) (dC g) (dE g) (dD g) ∧ DSR S g = X9_scores_x1 kd (nI r) := by
  obtain ⟨h0, hk, hr, h3, h4, h6⟩ := h
  have e : (nI kd).toNatClampNeg = kd := nI_c (by omega)
  unfold RFG DSG DSR refusesR doesG doesR codW cod1 cod2 cod3
  rw [h0, h3, h4]
  simp only [show ((2 : Int32) - 1 = 0) = False from by decide, show ((2 : Int32) - 1 = 1) = True from by decide, show ((2 : Int32) = 2) = True from by decide, if_true, if_false, e]
  exact ⟨trivial, trivial, trivial⟩
theorem RFG_3 {S g : Nat → Int32} {wy kd r : Nat} (h : OK3 S wy kd r) : RFG S g = X9_refuses2_r2 g (S 2) (S 3) (S 5) (S 4) (S 7) ∧ DSG S g = (if X9_next_r1 g (dI g) = -1 then (X9_does2N_g9 g (S 2) kd (S 5) (S 4) (S 7) (dI g) (dA g) (dB g) (dO g) (dS g) (dC g) (dW g) (dE g) (dD g)) else (X9_does2S_g9 g (S 2) kd (S 5) (S 4) (S 7) (dI g) (dA g) (dB g) (dO g) (dS g) (dC g) (dW g) (dX g) (dE g) (dD g))) ∧ DSR S g = (if X9_next_r1 g (dI g) = -1 then (X9_fallsN_r11 (dW g)) else (X9_fallsS_r11 (dW g))) := by
  obtain ⟨h0, hw, hk, hr, h2, h3, h4, h5, h6, h7⟩ := h
  have e : (S 3).toNatClampNeg = kd := by rw [h3]; exact nI_c (by omega)
  unfold RFG DSG DSR refusesR doesG doesR codW cod1 cod2 cod3 cod4 cod5
  rw [h0]
  simp only [show ((3 : Int32) - 1 = 0) = False from by decide, show ((3 : Int32) - 1 = 1) = False from by decide, show ((3 : Int32) - 1 = 2) = True from by decide, show ((3 : Int32) = 2) = False from by decide, show ((3 : Int32) = 3) = True from by decide, if_true, if_false, e]
  exact ⟨trivial, trivial, trivial⟩
theorem RFG_4 {S g : Nat → Int32} (h : OK4 S) : RFG S g = X9_noMatch_x1 g ∧ DSG S g = (if X9_next_r1 g (dI g) = -1 then (X9_does3N_g9 g (S 5) (S 8) (dI g) (dA g) (dB g) (dS g) (dE g) (dD g)) else (X9_does3S_g9 g (S 5) (S 8) (dI g) (dA g) (dB g) (dS g) (dX g) (dE g) (dD g))) ∧ DSR S g = (if X9_next_r1 g (dI g) = -1 then (-1) else (X9_retiresS_r2 (dX g))) := by
  obtain ⟨h0, h5, h8⟩ := h
  unfold RFG DSG DSR refusesR doesG doesR codW cod1 cod2 cod3
  rw [h0]
  simp only [show ((4 : Int32) - 1 = 0) = False from by decide, show ((4 : Int32) - 1 = 1) = False from by decide, show ((4 : Int32) - 1 = 2) = False from by decide, show ((4 : Int32) - 1 = 3) = True from by decide, show ((4 : Int32) = 2) = False from by decide, show ((4 : Int32) = 3) = False from by decide, show ((4 : Int32) = 4) = True from by decide, if_true, if_false]
  exact ⟨trivial, trivial, trivial⟩
theorem RFG_5 {S g : Nat → Int32} {p : Nat} (h : OK5 S p) : RFG S g = X9_refuses4_r2 g p (dI g) ∧ DSG S g = X9_does4_g7 g p (dD g) ∧ DSR S g = X9_does4_r8 g (dI g) (dD g) := by
  obtain ⟨h0, hp, h1⟩ := h
  have e : (nI p).toNatClampNeg = p := nI_c (by omega)
  unfold RFG DSG DSR refusesR doesG doesR codW cod1
  rw [h0, h1]
  simp only [show ((5 : Int32) - 1 = 0) = False from by decide, show ((5 : Int32) - 1 = 1) = False from by decide, show ((5 : Int32) - 1 = 2) = False from by decide, show ((5 : Int32) - 1 = 3) = False from by decide, show ((5 : Int32) - 1 = 4) = True from by decide, show ((5 : Int32) = 2) = False from by decide, show ((5 : Int32) = 3) = False from by decide, show ((5 : Int32) = 4) = False from by decide, if_true, if_false, e]
  exact ⟨trivial, trivial, trivial⟩
theorem RFG_6 {S g : Nat → Int32} (h : OK6 S) : RFG S g = X9_noMatch_x1 g ∧ DSG S g = X9_does5_g8 g (dI g) (dS g) (dE g) (dD g) ∧ DSR S g = X9_does5_r7 g (dI g) (dD g) := by
  obtain ⟨h0, h1⟩ := h
  unfold RFG DSG DSR refusesR doesG doesR codW cod1
  rw [h0]
  simp only [show ((6 : Int32) - 1 = 0) = False from by decide, show ((6 : Int32) - 1 = 1) = False from by decide, show ((6 : Int32) - 1 = 2) = False from by decide, show ((6 : Int32) - 1 = 3) = False from by decide, show ((6 : Int32) - 1 = 4) = False from by decide, show ((6 : Int32) - 1 = 5) = True from by decide, if_true, if_false]
  exact ⟨trivial, trivial, trivial⟩
theorem RFG_7 {S g : Nat → Int32} {o : Nat} (h : OK7 S o) : RFG S g = X9_refuses6_r3 g (nI o) (dI g) ∧ DSG S g = X9_does6_g8 g (nI o) (dI g) (dS g) (dE g) (dD g) ∧ DSR S g = X9_does6_r7 g (nI o) (dI g) (dD g) := by
  obtain ⟨h0, ho, ho2, h1⟩ := h
  unfold RFG DSG DSR refusesR doesG doesR codW cod1
  rw [h0, h1]
  simp only [show ((7 : Int32) - 1 = 0) = False from by decide, show ((7 : Int32) - 1 = 1) = False from by decide, show ((7 : Int32) - 1 = 2) = False from by decide, show ((7 : Int32) - 1 = 3) = False from by decide, show ((7 : Int32) - 1 = 4) = False from by decide, show ((7 : Int32) - 1 = 5) = False from by decide, show ((7 : Int32) = 2) = False from by decide, show ((7 : Int32) = 3) = False from by decide, show ((7 : Int32) = 4) = False from by decide, if_true, if_false]
  exact ⟨trivial, trivial, trivial⟩
/-! REFUSALS ALIKE -/
theorem noM {g : Nat → Int32} {x : Int32} (h0 : g 0 = 1) (h5 : g 5 = x) (hx : x = 0 ∨ x = 1) : X9_noMatch_x1 g = x := by
  unfold X9_noMatch_x1 X9_noMatch_x0
  rw [h0, h5, if_neg (by decide)]
  rcases hx with hx | hx <;> rw [hx] <;> rfl
theorem ball_ref {g : Nat → Int32} {bw : Int32} (hn : X9_noMatch_x1 g = 0) (h9 : bw = g 9) (hbw : bw = -1 ∨ ∃ bo, bo < 11 ∧ bw = nI bo) : X9_refusesBall_r2 g = if bw = -1 then 3 else 0 := by
  unfold X9_refusesBall_r2 X9_refusesBall_n1 X9_refusesBall_n0
  rw [hn, if_neg (show ¬ (0 : Int32) = 1 by decide), ← h9]
  rcases hbw with q | ⟨bo, q1, q2⟩
  · rw [q, if_neg (by decide), if_pos rfl]; rfl
  · rw [q2, if_pos (nI_nn bo (by omega)), if_neg (nI_neg (by omega))]; rfl
theorem wk_ref : ∀ wy, wy < 6 → ∀ kd, kd < 3 → ∀ r, r < 4 → ∀ so, so < 2 → ∀ sc, sc < 2 → (if X5_isPossibleWicket_r8 (nI wy) (nI kd) (nI r) (nI so) (nI sc) = 0 then (6 : Int32) else 0) = nI (X9_refusesWicket_n11 (nI wy) (nI kd) (X9_refuses2_x0 (nI so)) (nI r) (X9_refuses2_x1 (nI sc))) := by decide +kernel
theorem bit_nI {x : Int32} (h : bitI x) : ∃ k, k < 2 ∧ x = nI k := by
  rcases h with h | h
  · exact ⟨0, by omega, h⟩
  · exact ⟨1, by omega, h⟩
theorem ref_eq {cm : Nat → Int32} {cs : Nat → Nat → Nat → Int32} {S g : Nat → Int32} {ov : Int32} {k : Nat} (hR : RR cm cs g ov k) (hS : OKS S) : rfR cm cs S = RFG S g := by
  obtain ⟨n, SB, RP, RF, OC, hb, hs, hp, hz, h22, h5, h11, hl⟩ := hR
  obtain ⟨b1, b2, b3, b4, b5, b6, b7, b8, b9, b10⟩ := hb
  have e4 : (cm 4).toNatClampNeg = n := by rw [b2]; exact nI_c (by omega)
  have eI : dI g = n := by unfold dI; rw [b9]; exact nI_c (by omega)
  have c0 : ¬ cm 0 = 0 := by rw [b4]; decide
  rw [rf_one b3 c0, e4]
  have hno := noM b5 h5 h11
  by_cases hc1 : cm 1 = 0
  · rw [hc1] at hno
    obtain ⟨⟨hms, hmn, hr1, hrf, hoc, hbw9, ⟨bl, t, L, hbl, ht, hL, hocL, hcf⟩, hbat⟩, h12, hne, hlt⟩ := hl hc1
    obtain ⟨t0, t1, t2, t3, t4, t5, r3, r4, o2, o8, o9, o7, o6, o1⟩ := hms
    obtain ⟨m0, m3, m4, m5, m6, m9, m10, m11, m22⟩ := hmn
    have n01 : ¬ (0 : Int32) = 1 := by decide
    rcases hS with ⟨p, h⟩ | ⟨kd, r, h⟩ | ⟨wy, kd, r, h⟩ | h | ⟨p, h⟩ | h | ⟨o, h⟩
    · rw [rf_1 c0 hc1 h.1, (RFG_1 (g := g) h).1, eI]
      obtain ⟨h0, hp, h1⟩ := h
      unfold X9_refusesBowl_r2 X0_bowlRefusal_r3 X9_refusesBowl_n1 X0_bowlRefusal_n2 X9_refusesBowl_n0 X0_bowlRefusal_n1 X0_bowlRefusal_x0 X9_fifth_r0 X3_quota_r0
      rw [hno, if_neg n01, h1, ← m4, ← o1, ← m3, tg7 (c := 6) p 6 rfl hp rfl (by omega), t2 _ (by omega), W2_at (g := g) hp (by omega)]
      rcases hbw9 with q | ⟨bo, q1, q2⟩
      · rw [q, if_pos rfl, if_pos (show (-1 : Int32) < 0 by decide)]
        by_cases e1 : nI p = cs n 6 4
        · rw [if_pos e1, if_pos e1.symm]
        · have e1' : ¬ cs n 6 4 = nI p := fun z => e1 z.symm
          rw [if_neg e1, if_neg e1']
          by_cases e2 : Wn (333 + 77 * n) 77 g (p * 7 + 6) < (cs n 6 1 + 4) / 5
          · rw [if_pos e2, if_pos rfl, if_pos e2]
          · rw [if_neg e2, if_neg (show ¬ (1 : Int32) = 0 by decide), if_neg e2]
      · rw [q2, if_neg (nI_neg (by omega)), if_neg (Int32.not_lt.mpr (nI_nn bo (by omega)))]
    · rw [rf_2 c0 hc1 h.1, (RFG_2 (g := g) h).1, ball_ref hno m3 hbw9]
    · rw [rf_3 c0 hc1 h.1, (RFG_3 (g := g) h).1]
      obtain ⟨h0, hw, hk, hr, h2, h3, h4, h5', h6, h7⟩ := h
      obtain ⟨so, so1, so2⟩ := bit_nI h5'
      obtain ⟨sc, sc1, sc2⟩ := bit_nI h7
      unfold X9_refuses2_r2 X9_refusesWicket_r12
      rw [ball_ref hno m3 hbw9]
      by_cases q : cs n 6 3 = -1
      · rw [if_pos q, if_pos q, if_neg (by decide)]
      · rw [if_neg q, if_neg q, if_pos (show (0 : Int32) ≤ 0 by decide), h2, h3, h4, so2, sc2]
        exact wk_ref wy hw kd hk r (by omega) so so1 sc sc1
    · rw [rf_4 c0 hc1 h.1, (RFG_4 (g := g) h).1, hno]
    · rw [rf_5 c0 hc1 h.1, (RFG_5 (g := g) h).1, eI]
      obtain ⟨h0, hp, h1⟩ := h
      unfold X9_refuses4_r2 X9_refuses4_n1 X9_refuses4_n0 X0_canComeIn_x1 X0_canComeIn_x0 X9_mayCome_x1 X9_mayCome_x0
      rw [hno, if_neg n01, h1, tg6 (c := 4) p 4 rfl hp rfl (by omega), t1 _ (by omega), W1_at (g := g) hp (by omega), nI_if]
      rfl
    · rw [rf_6 c0 hc1 h.1, (RFG_6 (g := g) h).1, hno]
    · rw [rf_7 c0 hc1 h.1, (RFG_7 (g := g) h).1, eI]
      obtain ⟨h0, ho, ho2, h1⟩ := h
      unfold X9_refuses6_r3 X9_refuses6_n2 X9_refuses6_n1 X9_refuses6_n0 X0_canLose_x0 X9_begun_r0
      rw [hno, if_neg n01, b6, h1]
      rcases b3 with q | q
      · rw [if_pos q.1, if_neg (show ¬ cm 2 = 2 by rw [q.1]; decide), ← m0, ← o7, o8, o2]
        have hbg : X3_begun_x0 (nI (OC n)) (cs n 6 7) = nI (OC n) + cs n 6 7 := by
          unfold X3_begun_x0
          rcases hcf.2.2.2.2.2.2.2.1 with z | z
          · rw [z, if_pos rfl, Int32.add_zero]
          · rw [z.1, if_neg (by decide)]
        rw [hbg]
        by_cases z : nI (OC n) + cs n 6 7 < cs n 6 0 - nI o
        · rw [if_neg (Int32.not_le.mpr z), if_neg (show ¬ (1 : Int32) = 0 by decide), if_pos z]; rfl
        · rw [if_pos (Int32.not_lt.mp z), if_pos rfl, if_neg z]; rfl
      · rw [if_neg (show ¬ cm 2 = 1 by rw [q.1]; decide), if_pos q.1]; rfl
  · have hc1' : cm 1 = 1 := h11.resolve_left hc1
    rw [hc1'] at hno
    rw [rf_over c0 hc1]
    have hb1 : X9_refusesBall_r2 g = 1 := by
      unfold X9_refusesBall_r2 X9_refusesBall_n1
      rw [hno, if_pos rfl]; rfl
    rcases hS with ⟨p, h⟩ | ⟨kd, r, h⟩ | ⟨wy, kd, r, h⟩ | h | ⟨p, h⟩ | h | ⟨o, h⟩
    · rw [(RFG_1 (g := g) h).1]
      unfold X9_refusesBowl_r2
      rw [hno, if_pos rfl]
    · rw [(RFG_2 (g := g) h).1, hb1]
    · rw [(RFG_3 (g := g) h).1]
      unfold X9_refuses2_r2 X9_refusesWicket_r12
      rw [hb1, if_neg (by decide)]
    · rw [(RFG_4 (g := g) h).1, hno]
    · rw [(RFG_5 (g := g) h).1]
      unfold X9_refuses4_r2 X9_refuses4_n1
      rw [hno, if_pos rfl]; rfl
    · rw [(RFG_6 (g := g) h).1, hno]
    · rw [(RFG_7 (g := g) h).1]
      unfold X9_refuses6_r3 X9_refuses6_n2
      rw [hno, if_pos rfl]; rfl
