/-! WHAT THE REFERENCE'S METHODS LEAVE AS IT WAS: p lies outside of what they write in the innings i, s shares being there -/
def OUTR (i s p : Nat) : Prop := (p < 6 ∨ (14 ≤ p ∧ p ≠ 22 ∧ p ≠ 14 + i ∧ p ≠ 18 + i)) ∧ (p < 25 + 11 * i ∨ 36 + 11 * i ≤ p) ∧ (p < 69 + 66 * i ∨ 135 + 66 * i ≤ p) ∧ (p < 333 + 77 * i ∨ 410 + 77 * i ≤ p) ∧ (p < 641 + 30 * i ∨ 671 + 30 * i ≤ p) ∧ (p < 761 + 20 * i ∨ 781 + 20 * i ≤ p) ∧ (p < 841 + 8 * (s - 1) ∨ 849 + 8 * s ≤ p)
theorem n19_lt (ru : Int32) : X9_scores_n19 ru < 6 := by unfold X9_scores_n19; split <;> omega
theorem n38_lt {g : Nat → Int32} {kd : Nat} {ru bd : Int32} {i a bo s : Nat} : X9_scores_n38 g kd ru bd i a bo s < 8 := by unfold X9_scores_n38; split <;> omega
theorem x5_le {kd : Nat} (hk : kd < 5) (h : X9_scores_x5 kd = 0) : kd ≤ 2 := by
  have h9 : kd = 0 ∨ kd = 1 ∨ kd = 2 ∨ kd = 3 ∨ kd = 4 := by omega
  rcases h9 with rfl | rfl | rfl | rfl | rfl
  · omega
  · omega
  · omega
  · exact absurd h (by decide)
  · exact absurd h (by decide)
theorem fr_g32 {g : Nat → Int32} {kd : Nat} {ru bd : Int32} {i a bo p : Nat} (hi : i < 4) (ha : a < 11) (hbo : bo < 11) (hk : kd < 5) (hS : p < 10 ∨ (12 ≤ p)) (hT : p < 25 + 11 * i ∨ 36 + 11 * i ≤ p) (hB : p < 69 + 66 * i ∨ 135 + 66 * i ≤ p) (hO : p < 333 + 77 * i ∨ 410 + 77 * i ≤ p) : X9_scores_g32 g kd ru bd i a bo p = g p := by
  have h19 := n19_lt ru
  have a12 : X9_scores_g12 g kd ru i p = g p := by
    unfold X9_scores_g12
    split
    · rw [X9_scores_g8, upd_off (by omega), X9_scores_g7, upd_off (by omega), X9_scores_g6, upd_off (by omega)]
    · rw [X9_scores_g11, upd_off (by omega), X9_scores_g8, upd_off (by omega), X9_scores_g7, upd_off (by omega), X9_scores_g6, upd_off (by omega)]
  have a22 : X9_scores_g22 g kd ru bd i a p = g p := by
    unfold X9_scores_g22
    split
    · rw [X9_scores_g18, upd_off (by omega), X9_scores_g15, upd_off (by omega), a12]
    · rw [X9_scores_g21, upd_off (by omega), X9_scores_g18, upd_off (by omega), X9_scores_g15, upd_off (by omega), a12]
  unfold X9_scores_g32
  split
  · rename_i hx
    have hk2 := x5_le hk hx
    rw [X9_scores_g31, upd_off (by omega), X9_scores_g29, upd_off (by omega), X9_scores_g27, upd_off (by omega), X9_scores_g24, upd_off (by omega), a22]
  · rw [X9_scores_g29, upd_off (by omega), X9_scores_g27, upd_off (by omega), X9_scores_g24, upd_off (by omega), a22]
theorem fr_g37 {g : Nat → Int32} {kd : Nat} {ru bd : Int32} {i a bo s p : Nat} (hi : i < 4) (ha : a < 11) (hbo : bo < 11) (hk : kd < 5) (hS : p < 10 ∨ (12 ≤ p)) (hT : p < 25 + 11 * i ∨ 36 + 11 * i ≤ p) (hB : p < 69 + 66 * i ∨ 135 + 66 * i ≤ p) (hO : p < 333 + 77 * i ∨ 410 + 77 * i ≤ p) (hP : p ≠ 841 + 8 * (s - 1) ∧ p ≠ 841 + 8 * (s - 1) + 1) : X9_scores_g37 g kd ru bd i a bo s p = g p := by
  rw [X9_scores_g37, upd_off (by omega), X9_scores_g35, upd_off (by omega), X9_scores_g33, upd_off (by omega), fr_g32 hi ha hbo hk hS hT hB hO]
theorem fr_scores {g : Nat → Int32} {kd : Nat} {ru bd : Int32} {i a bo s p : Nat} (hi : i < 4) (ha : a < 11) (hbo : bo < 11) (hk : kd < 5) (h : OUTR i s p) : X9_scores_g44 g kd ru bd i a bo s p = g p := by
  obtain ⟨h1, h2, h3, h4, h5, h6, h7⟩ := h
  have h38 := n38_lt (g := g) (kd := kd) (ru := ru) (bd := bd) (i := i) (a := a) (bo := bo) (s := s)
  have a37 : X9_scores_g37 g kd ru bd i a bo s p = g p := fr_g37 hi ha hbo hk (by omega) h2 h3 h4 (by omega)
  rw [X9_scores_g44, upd_off (by omega)]
  unfold X9_scores_g41
  split
  · exact a37
  · rw [X9_scores_g40, upd_off (by omega), a37]
theorem fr_ends {g : Nat → Int32} {i s p : Nat} (h : OUTR i s p) : X9_changesEnds_g1 g p = g p := by
  obtain ⟨h1, -⟩ := h
  rw [X9_changesEnds_g1, upd_off (by omega), X9_changesEnds_g0, upd_off (by omega)]
theorem fr_bowled1 {g : Nat → Int32} {kd : Nat} {ru bd : Int32} {i a bo s p : Nat} (hi : i < 4) (ha : a < 11) (hbo : bo < 11) (hk : kd < 5) (h : OUTR i s p) : X9_bowled_g1 g kd ru bd i a bo s p = g p := by
  unfold X9_bowled_g1 X9_bowled_g0
  split
  · split
    · rw [fr_ends h, fr_scores hi ha hbo hk h]
    · exact fr_scores hi ha hbo hk h
  · exact fr_scores hi ha hbo hk h
theorem fr_completes {g : Nat → Int32} {i bo oc s p : Nat} (hi : i < 4) (hbo : bo < 11) (hoc : oc < 20) (h : OUTR i s p) : X9_completes_g11 g i bo oc p = g p := by
  have h0 := h
  obtain ⟨h1, h2, h3, h4, h5, h6, h7⟩ := h
  unfold X9_completes_g11
  split
  · rw [fr_ends h0, X9_completes_g10, upd_off (by omega), X9_completes_g9, upd_off (by omega), X9_completes_g8, upd_off (by omega), X9_completes_g7, upd_off (by omega), X9_completes_g6, upd_off (by omega), X9_completes_g5, upd_off (by omega), X9_completes_g2, upd_off (by omega), X9_completes_g1, upd_off (by omega), X9_completes_g0, upd_off (by omega)]
  · rfl
theorem fr_share {g : Nat → Int32} {i s p : Nat} (h : OUTR i s p) : X9_share_g13 g s p = g p := by
  obtain ⟨h1, h2, h3, h4, h5, h6, h7⟩ := h
  rw [X9_share_g13, upd_off (by omega), X9_share_g12, upd_off (by omega), X9_share_g11, upd_off (by omega), X9_share_g9, upd_off (by omega), X9_share_g7, upd_off (by omega), X9_share_g6, upd_off (by omega), X9_share_g5, upd_off (by omega), X9_share_g4, upd_off (by omega), X9_share_g3, upd_off (by omega), X9_share_g2, upd_off (by omega), X9_share_g1, upd_off (by omega), X9_share_g0, upd_off (by omega)]
theorem fr_leavesN {g : Nat → Int32} {i s w p : Nat} {how : Int32} (hw : w < 11) (h : OUTR i s p) : X9_leavesN_g1 g w how i s p = g p := by
  obtain ⟨h1, h2, h3, h4, h5, h6, h7⟩ := h
  rw [X9_leavesN_g1, upd_off (by omega), X9_leavesN_g0, upd_off (by omega)]
theorem fr_leavesS {g : Nat → Int32} {i s w x p : Nat} {how : Int32} (hw : w < 11) (hx : x < 11) (h : OUTR i s p) : X9_leavesS_g7 g w x how i s p = g p := by
  have h0 := h
  obtain ⟨h1, h2, h3, h4, h5, h6, h7⟩ := h
  have a1 : X9_leavesS_g1 g w how i s p = g p := by rw [X9_leavesS_g1, upd_off (by omega), X9_leavesS_g0, upd_off (by omega)]
  rw [X9_leavesS_g7, fr_share h0, X9_leavesS_g6, upd_off (by omega), X9_leavesS_g5, upd_off (by omega)]
  unfold X9_leavesS_g4
  split
  · rw [X9_leavesS_g3, upd_off (by omega), a1]
  · rw [X9_leavesS_g2, upd_off (by omega), a1]
theorem fr_loses {g : Nat → Int32} {i s p : Nat} {ov : Int32} (h : OUTR i s p) : X9_loses_g2 g ov i p = g p := by
  obtain ⟨h1, h2, h3, h4, h5, h6, h7⟩ := h
  rw [X9_loses_g2, upd_off (by omega), X9_loses_g0, upd_off (by omega)]
/-- the rows of a wicket behind its ball: g the reference's numbers behind the ends -/
def fw3 (g : Nat → Int32) (i w wk : Nat) : Nat → Int32 := upd g (641 + 30 * i + 3 * wk) (nI w)
def fw4 (g : Nat → Int32) (i w wk : Nat) : Nat → Int32 := upd (fw3 g i w wk) (641 + 30 * i + 3 * wk + 1) ((fw3 g i w wk) (25 + 11 * i + 0))
def fw5 (g : Nat → Int32) (i w wk : Nat) : Nat → Int32 := upd (fw4 g i w wk) (641 + 30 * i + 3 * wk + 2) ((fw4 g i w wk) (25 + 11 * i + 2))
def fw6 (g : Nat → Int32) (i w wk : Nat) : Nat → Int32 := upd (fw5 g i w wk) (25 + 11 * i + 1) (nI (wk + 1))
def fwG (g : Nat → Int32) (way : Int32) (i w bo wk : Nat) : Nat → Int32 := if way = 5 then fw6 g i w wk else incr (upd (fw6 g i w wk) (69 + 6 * (11 * i + w) + 5) (nI bo)) (333 + 7 * (11 * i + bo) + 2) 1
theorem fr_fw {g : Nat → Int32} {way : Int32} {i w bo wk s p : Nat} (hi : i < 4) (hw : w < 11) (hbo : bo < 11) (hwk : wk < 10) (h : OUTR i s p) : fwG g way i w bo wk p = g p := by
  obtain ⟨h1, h2, h3, h4, h5, h6, h7⟩ := h
  unfold fwG fw6 fw5 fw4 fw3
  split
  · rw [upd_off (by omega), upd_off (by omega), upd_off (by omega), upd_off (by omega)]
  · rw [incr_off (by omega), upd_off (by omega), upd_off (by omega), upd_off (by omega), upd_off (by omega), upd_off (by omega)]
/-- what opening an innings leaves -/
theorem fr_opens {g : Nat → Int32} {i s p : Nat} (hi : i < 4) (h4 : p ≠ 4) (h : OUTR i (s + 1) p) : X9_opens_g37 g i s p = g p := by
  obtain ⟨h1, h2, h3, h4, h5, h6, h7⟩ := h
  have a10 : X9_opens_g10 g i p = g p := by
    have a7 : X9_opens_g7 g i p = g p := by rw [X9_opens_g7, upd_off (by omega), X9_opens_g6, upd_off (by omega), X9_opens_g5, upd_off (by omega), X9_opens_g4, upd_off (by omega), X9_opens_g3, upd_off (by omega), X9_opens_g2, upd_off (by omega), X9_opens_g1, upd_off (by omega), X9_opens_g0, upd_off (by omega)]
    have a8 : X9_opens_g8 g i p = g p := by rw [X9_opens_g8, upd_off (by omega), a7]
    unfold X9_opens_g10 X9_opens_g9
    split
    · exact a8
    · split
      · exact a8
      · exact a7
  have b36 : X9_opens_g36 g i s p = g p := by
    rw [X9_opens_g36, upd_off (by omega), X9_opens_g35, upd_off (by omega), X9_opens_g34, upd_off (by omega), X9_opens_g33, upd_off (by omega), X9_opens_g32, upd_off (by omega), X9_opens_g31, upd_off (by omega), X9_opens_g30, upd_off (by omega), X9_opens_g29, upd_off (by omega), X9_opens_g28, upd_off (by omega), X9_opens_g27, upd_off (by omega), X9_opens_g26, upd_off (by omega), X9_opens_g25, upd_off (by omega), X9_opens_g24, upd_off (by omega), X9_opens_g23, upd_off (by omega), X9_opens_g22, upd_off (by omega), X9_opens_g21, upd_off (by omega), X9_opens_g20, upd_off (by omega), X9_opens_g19, upd_off (by omega), X9_opens_g18, upd_off (by omega), X9_opens_g17, upd_off (by omega), X9_opens_g16, upd_off (by omega), X9_opens_g15, upd_off (by omega), X9_opens_g14, upd_off (by omega), X9_opens_g13, upd_off (by omega), X9_opens_g11, upd_off (by omega), a10]
  rw [X9_opens_g37]
  rw [X9_share_g13, upd_off (by omega), X9_share_g12, upd_off (by omega), X9_share_g11, upd_off (by omega), X9_share_g9, upd_off (by omega), X9_share_g7, upd_off (by omega), X9_share_g6, upd_off (by omega), X9_share_g5, upd_off (by omega), X9_share_g4, upd_off (by omega), X9_share_g3, upd_off (by omega), X9_share_g2, upd_off (by omega), X9_share_g1, upd_off (by omega), X9_share_g0, upd_off (by omega), b36]
