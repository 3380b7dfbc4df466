/-! AN INNINGS, the program (c) and reference (g) ALIKE: i its number, sb the partnerships before it, rp its own, rf the wickets, oc the complete overs -/
def SIM (c : Nat → Nat → Int32) (g : Nat → Int32) (i sb rp rf oc : Nat) : Prop :=
  EQ 8 (c 0) (Wn (25 + 11 * i) 11 g) ∧ EQ 66 (c 1) (Wn (69 + 66 * i) 66 g) ∧ EQ 77 (c 2) (Wn (333 + 77 * i) 77 g) ∧ EQ (8 * rp) (c 3) (Wn (841 + 8 * sb) (8 * rp) g) ∧ EQ (3 * rf) (c 4) (Wn (641 + 30 * i) 30 g) ∧ EQ oc (c 5) (Wn (761 + 20 * i) 20 g) ∧ c 7 3 = nI rp ∧ c 7 4 = nI rf ∧ c 6 2 = nI oc ∧ g (25 + 11 * i + 8) = nI oc ∧ g (25 + 11 * i + 9) = nI sb ∧ c 6 7 = g (25 + 11 * i + 10) ∧ c 6 8 = g (14 + i) ∧ c 6 1 = g (18 + i)
/-- the present one -/
def NOWR (c : Nat → Nat → Int32) (g : Nat → Int32) (sb rp : Nat) : Prop := c 6 0 = g 13 ∧ c 6 3 = g 9 ∧ c 6 4 = g 12 ∧ c 6 5 = g 10 ∧ c 6 6 = g 11 ∧ c 6 9 = g 6 ∧ c 6 10 = g 7 ∧ c 6 11 = g 8 ∧ g 22 = nI (sb + rp)
theorem nI_neg {k : Nat} (h : k < 1000000) : ¬ nI k = -1 := fun q => by
  have h0 := nI_nn k (by omega)
  rw [q] at h0
  exact absurd h0 (by decide)
theorem rdS {u X : Nat → Int32} {p : Nat} (hS : Wn 0 25 u = X) (h : p < 25) : u p = X p := (WS_at h).trans (congrFun hS p)
theorem sv {g u : Nat → Int32} {p : Nat} {v : Int32} (hS : Wn 0 25 u = Wn 0 25 g) (h : p < 25) (e : v = g p) : v = u p := e.trans ((WS_at h).trans ((congrFun hS p).symm.trans (WS_at h).symm))
theorem fr_scoresF {g : Nat → Int32} {kd : Nat} {ru bd : Int32} {i a bo s p : Nat} (hi : i < 4) (ha : a < 11) (hbo : bo < 11) (hk : kd < 5) (h1 : 641 ≤ p) (h2 : p < 841) : X9_scores_g44 g kd ru bd i a bo s p = g p := by
  have h38 := n38_lt (g := g) (kd := kd) (ru := ru) (bd := bd) (i := i) (a := a) (bo := bo) (s := s)
  have a37 : X9_scores_g37 g kd ru bd i a bo s p = g p := fr_g37 hi ha hbo hk (by omega) (by omega) (by omega) (by omega) (by omega)
  rw [X9_scores_g44, upd_off (by omega)]
  unfold X9_scores_g41
  split
  · exact a37
  · rw [X9_scores_g40, upd_off (by omega), a37]
/-- a ball: counted, and the ends changed -/
theorem sim_CNT {c : Nat → Nat → Int32} {g : Nat → Int32} {kd : Nat} {ru bd : Int32} {i a b bo sb rp rf oc : Nat} (hi : i < 4) (ha : a < 11) (hb : b < 11) (hab : a ≠ b) (hbo : bo < 11) (hk : kd < 5) (hr : 1 ≤ rp) (hr2 : rp ≤ 513) (hoc : oc ≤ 20) (hodd : (ru &&& 1) = 1 ↔ (ru - ru / 2 * 2) = 1) (h : SIM c g i sb rp rf oc) (hn : NOWR c g sb rp) (h9 : c 6 9 = nI a) (h10 : c 6 10 = nI b) (h3 : c 6 3 = nI bo) (hlow : c 3 ((rp - 1) * 8 + 2) = nI (if a < b then a else b)) :
    SIM (CNT c (nI kd) ru bd) (X9_bowled_g1 g kd ru bd i a bo (sb + rp)) i sb rp rf oc ∧ NOWR (CNT c (nI kd) ru bd) (X9_bowled_g1 g kd ru bd i a bo (sb + rp)) sb rp := by
  obtain ⟨t0, t1, t2, t3, t4, t5, r3, r4, o2, o8, o9, o7, o6, o1⟩ := h
  obtain ⟨n0, n3, n4, n5, n6, n9, n10, n11, n22⟩ := hn
  have erp : (c 7 3).toNatClampNeg = rp := by rw [r3]; exact nI_c (by omega)
  have eG : X9_bowled_g1 g kd ru bd i a bo (sb + rp) = if X5_changesEnds_x1 ru bd = 0 then X9_scores_g44 g kd ru bd i a bo (sb + rp) else X9_changesEnds_g1 (X9_scores_g44 g kd ru bd i a bo (sb + rp)) := by
    unfold X9_bowled_g1 X9_bowled_g0 X5_changesEnds_x1 X5_changesEnds_x0
    by_cases h1 : bd = 0
    · by_cases h2 : (ru &&& 1) = 1
      · rw [if_pos h1, if_pos (hodd.mp h2), if_pos h1, if_pos h2, if_neg (by decide)]
      · rw [if_pos h1, if_neg (fun q => h2 (hodd.mpr q)), if_pos h1, if_neg h2, if_pos rfl]
    · rw [if_neg h1, if_neg h1, if_pos rfl]
  rw [eG]
  clear eG
  have hS := sc_S (g := g) (ru := ru) (bd := bd) (s := sb + rp) hi ha hbo hk
  have hT3 := sc_T3 (g := g) (ru := ru) (bd := bd) (s := sb + rp) hi ha hbo hk
  have kT := sc_T (c := c 0) (ru := ru) (bd := bd) (s := sb + rp) hi ha hbo hk t0
  have kB := sc_B (c := c 1) (ru := ru) (bd := bd) (s := sb + rp) hi ha hbo hk t1
  have kO := sc_O (c := c 2) (ru := ru) (bd := bd) (s := sb + rp) hi ha hbo hk t2
  have kP := sc_P (c := c 3) (ru := ru) (bd := bd) (s := sb + rp) hi ha hbo hk hb hab rfl hr hr2 hlow t3
  have kfr : ∀ p, 641 ≤ p → p < 841 → X9_scores_g44 g kd ru bd i a bo (sb + rp) p = g p := fun p h1 h2 => fr_scoresF hi ha hbo hk h1 h2
  generalize X9_scores_g44 g kd ru bd i a bo (sb + rp) = u at hS hT3 kT kB kO kP kfr ⊢
  have uS : ∀ p, p < 25 → p ≠ 10 → p ≠ 11 → u p = g p := fun p h1 h2 h3 => (rdS hS h1).trans ((incr_off h2).trans ((incr_off h3).trans (WS_at h1).symm))
  have u10 : u 10 = c 6 5 + X0_countForBowler_x0 (nI kd) := (rdS hS (by omega)).trans (by rw [incr_at, incr_off (by omega), n5]; rfl)
  have u11 : u 11 = c 6 6 + X5_bowlerRuns_r1 (nI kd) ru := (rdS hS (by omega)).trans (by rw [incr_off (by omega), incr_at, n6]; rfl)
  have hw : ∀ q : Nat → Int32, (∀ p, p ≠ 6 → p ≠ 7 → q p = u p) → SIM (CNT c (nI kd) ru bd) q i sb rp rf oc := by
    intro q hq
    have eW : ∀ (b0 m : Nat), 25 ≤ b0 → Wn b0 m q = Wn b0 m u := fun b0 m hb0 => by
      funext k
      unfold Wn
      split
      · exact hq _ (by omega) (by omega)
      · rfl
    refine ⟨?_, ?_, ?_, ?_, ?_, ?_, r3, r4, o2, ?_, ?_, ?_, ?_, ?_⟩
    · rw [eW _ _ (by omega)]; exact kT
    · rw [eW _ _ (by omega)]
      show EQ 66 (X0_count_g6 (c 1) (c 6 9) (nI kd) ru bd) _
      rw [h9]; exact kB
    · rw [eW _ _ (by omega)]
      show EQ 77 (X0_count_g5 (c 2) (c 6 3) (nI kd) ru) _
      rw [h3]; exact kO
    · rw [eW _ _ (by omega)]
      show EQ (8 * rp) (X0_count_g7 ((c 7 3).toNatClampNeg) (c 3) (c 6 9) (c 6 10) (nI kd) ru) _
      rw [h9, h10, erp]; exact kP
    · intro k hk2
      show c 4 k = _
      rw [t4 k hk2]
      unfold Wn
      split
      · rw [hq _ (by omega) (by omega), kfr _ (by omega) (by omega)]
      · rfl
    · intro k hk2
      show c 5 k = _
      rw [t5 k hk2]
      unfold Wn
      split
      · rw [hq _ (by omega) (by omega), kfr _ (by omega) (by omega)]
      · rfl
    · rw [hq _ (by omega) (by omega), hT3.1]; exact o8
    · rw [hq _ (by omega) (by omega), hT3.2.1]; exact o9
    · show (1 : Int32) = _
      rw [hq _ (by omega) (by omega), hT3.2.2]
    · show c 6 8 = _
      rw [hq _ (by omega) (by omega), o6, uS _ (by omega) (by omega) (by omega)]
    · show c 6 1 = _
      rw [hq _ (by omega) (by omega), o1, uS _ (by omega) (by omega) (by omega)]
  have hN : ∀ q : Nat → Int32, (∀ p, p ≠ 6 → p ≠ 7 → q p = u p) → X0_count_x2 (c 6 9) (c 6 10) ru bd = q 6 → X0_count_x3 (c 6 9) (c 6 10) ru bd = q 7 → NOWR (CNT c (nI kd) ru bd) q sb rp := by
    intro q hq q6 q7
    have qS : ∀ p, p < 25 → p ≠ 10 → p ≠ 11 → p ≠ 6 → p ≠ 7 → q p = g p := fun p h1 h2 h3 h4 h5 => (hq p h4 h5).trans (uS p h1 h2 h3)
    exact ⟨n0.trans (qS 13 (by omega) (by omega) (by omega) (by omega) (by omega)).symm, n3.trans (qS 9 (by omega) (by omega) (by omega) (by omega) (by omega)).symm, n4.trans (qS 12 (by omega) (by omega) (by omega) (by omega) (by omega)).symm, ((hq 10 (by omega) (by omega)).trans u10).symm, ((hq 11 (by omega) (by omega)).trans u11).symm, q6, q7, n11.trans (qS 8 (by omega) (by omega) (by omega) (by omega) (by omega)).symm, (qS 22 (by omega) (by omega) (by omega) (by omega) (by omega)).trans n22⟩
  by_cases hE : X5_changesEnds_x1 ru bd = 0
  · rw [if_pos hE]
    refine ⟨hw u (fun _ _ _ => rfl), hN u (fun _ _ _ => rfl) ?_ ?_⟩
    · unfold X0_count_x2; rw [if_pos hE, uS 6 (by omega) (by omega) (by omega)]; exact n9
    · unfold X0_count_x3; rw [if_pos hE, uS 7 (by omega) (by omega) (by omega)]; exact n10
  · rw [if_neg hE]
    have hq : ∀ p, p ≠ 6 → p ≠ 7 → X9_changesEnds_g1 u p = u p := fun p h1 h2 => by rw [X9_changesEnds_g1, upd_off h2, X9_changesEnds_g0, upd_off h1]
    refine ⟨hw _ hq, hN _ hq ?_ ?_⟩
    · unfold X0_count_x2; rw [if_neg hE, rd_X9_changesEnds_6, uS 7 (by omega) (by omega) (by omega)]; exact n10
    · unfold X0_count_x3; rw [if_neg hE, rd_X9_changesEnds_7, uS 6 (by omega) (by omega) (by omega)]; exact n9
/-- only scalars of the reference and numbers of the program changed -/
theorem SIM_win {c d : Nat → Nat → Int32} {g q : Nat → Int32} {i sb rp rf oc : Nat} (hi : i < 4) (hoc : oc ≤ 20) (hrf : rf ≤ 10) (h : SIM c g i sb rp rf oc) (hq : ∀ p, 14 ≤ p → p ≠ 22 → p ≠ 23 → q p = g p) (e0 : d 0 = c 0) (e1 : d 1 = c 1) (e2 : d 2 = c 2) (e3 : d 3 = c 3) (e4 : d 4 = c 4) (e5 : d 5 = c 5) (e73 : d 7 3 = c 7 3) (e74 : d 7 4 = c 7 4) (e62 : d 6 2 = c 6 2) (e67 : d 6 7 = c 6 7) (e68 : d 6 8 = c 6 8) (e61 : d 6 1 = c 6 1) : SIM d q i sb rp rf oc := by
  obtain ⟨t0, t1, t2, t3, t4, t5, r3, r4, o2, o8, o9, o7, o6, o1⟩ := h
  have eW : ∀ (b0 m : Nat), 25 ≤ b0 → Wn b0 m q = Wn b0 m g := fun b0 m hb0 => by
    funext k
    unfold Wn
    split
    · exact hq _ (by omega) (by omega) (by omega)
    · rfl
  refine ⟨?_, ?_, ?_, ?_, ?_, ?_, e73.trans r3, e74.trans r4, e62.trans o2, (hq _ (by omega) (by omega) (by omega)).trans o8, (hq _ (by omega) (by omega) (by omega)).trans o9, (e67.trans o7).trans (hq _ (by omega) (by omega) (by omega)).symm, (e68.trans o6).trans (hq _ (by omega) (by omega) (by omega)).symm, (e61.trans o1).trans (hq _ (by omega) (by omega) (by omega)).symm⟩
  · rw [eW _ _ (by omega), e0]; exact t0
  · rw [eW _ _ (by omega), e1]; exact t1
  · rw [eW _ _ (by omega), e2]; exact t2
  · rw [eW _ _ (by omega), e3]; exact t3
  · rw [eW _ _ (by omega), e4]; exact t4
  · rw [eW _ _ (by omega), e5]; exact t5
/-- the batters cross, or don't -/
theorem sim_SWP {c : Nat → Nat → Int32} {g : Nat → Int32} {sc : Int32} {i sb rp rf oc : Nat} (hi : i < 4) (hoc : oc ≤ 20) (hrf : rf ≤ 10) (h : SIM c g i sb rp rf oc) (hn : NOWR c g sb rp) : SIM (SWP c sc) (if sc = 0 then g else X9_changesEnds_g1 g) i sb rp rf oc ∧ NOWR (SWP c sc) (if sc = 0 then g else X9_changesEnds_g1 g) sb rp := by
  have hq : ∀ p, p ≠ 6 → p ≠ 7 → (if sc = 0 then g else X9_changesEnds_g1 g) p = g p := fun p h1 h2 => by
    split
    · rfl
    · rw [X9_changesEnds_g1, upd_off h2, X9_changesEnds_g0, upd_off h1]
  obtain ⟨n0, n3, n4, n5, n6, n9, n10, n11, n22⟩ := hn
  refine ⟨SIM_win hi hoc hrf h (fun p h1 _ _ => hq p (by omega) (by omega)) rfl rfl rfl rfl rfl rfl rfl rfl rfl rfl rfl rfl, n0.trans (hq 13 (by omega) (by omega)).symm, n3.trans (hq 9 (by omega) (by omega)).symm, n4.trans (hq 12 (by omega) (by omega)).symm, n5.trans (hq 10 (by omega) (by omega)).symm, n6.trans (hq 11 (by omega) (by omega)).symm, ?_, ?_, n11.trans (hq 8 (by omega) (by omega)).symm, (hq 22 (by omega) (by omega)).trans n22⟩
  · show (if sc = 0 then c 6 9 else c 6 10) = _
    by_cases hs : sc = 0
    · rw [if_pos hs, if_pos hs]; exact n9
    · rw [if_neg hs, if_neg hs]; exact n10.trans rd_X9_changesEnds_6.symm
  · show (if sc = 0 then c 6 10 else c 6 9) = _
    by_cases hs : sc = 0
    · rw [if_pos hs, if_pos hs]; exact n10
    · rw [if_neg hs, if_neg hs]; exact n9.trans rd_X9_changesEnds_7.symm
theorem SIM_eq {c d : Nat → Nat → Int32} {g q : Nat → Int32} {i sb rp rf oc : Nat} (h : SIM c g i sb rp rf oc) (e : d = c) (eq : q = g) : SIM d q i sb rp rf oc := by rw [e, eq]; exact h
/-! an over that may be complete -/
section E10
variable {g : Nat → Int32} {i bo oc : Nat}
theorem e_c2 : X9_completes_g2 g i bo oc = incr (X9_completes_g1 g i oc) (333 + 7 * (11 * i + bo) + 6) 1 := rfl
theorem e_c5 : X9_completes_g5 g i bo oc = incr (X9_completes_g2 g i bo oc) (333 + 7 * (11 * i + bo) + 3) (X9_completes_x3 g i bo oc) := rfl
theorem cp_x3 (hbo : bo < 11) (hi : i < 4) : X9_completes_x3 g i bo oc = X0_finishOver_x0 (g 11) := by
  unfold X9_completes_x3 X0_finishOver_x0
  rw [e_c2, incr_off (by omega), X9_completes_g1, upd_off (by omega), X9_completes_g0, upd_off (by omega)]
theorem cp_10 {p : Nat} (hi : i < 4) (hbo : bo < 11) (hoc : oc < 20) (h : p < 25) (h9 : p ≠ 9) (h10 : p ≠ 10) (h11 : p ≠ 11) (h12 : p ≠ 12) : X9_completes_g10 g i bo oc p = g p := by
  rw [X9_completes_g10, upd_off (by omega), X9_completes_g9, upd_off (by omega), X9_completes_g8, upd_off (by omega), X9_completes_g7, upd_off (by omega), X9_completes_g6, upd_off (by omega), X9_completes_g5, upd_off (by omega), X9_completes_g2, upd_off (by omega), X9_completes_g1, upd_off (by omega), X9_completes_g0, upd_off (by omega)]
theorem cp_W {b n : Nat} (hb : 25 ≤ b) : Wn b n (X9_changesEnds_g1 (X9_completes_g10 g i bo oc)) = Wn b n (X9_completes_g6 g i bo oc) := by
  rw [X9_changesEnds_g1, Wn_out (by omega), X9_changesEnds_g0, Wn_out (by omega), X9_completes_g10, Wn_out (by omega), X9_completes_g9, Wn_out (by omega), X9_completes_g8, Wn_out (by omega), X9_completes_g7, Wn_out (by omega)]
end E10
theorem sim_FOV {c : Nat → Nat → Int32} {g : Nat → Int32} {i bo sb rp rf oc : Nat} (hi : i < 4) (hbo : bo < 11) (hoc : oc < 20) (hrf : rf ≤ 10) (h : SIM c g i sb rp rf oc) (hn : NOWR c g sb rp) (h3 : c 6 3 = nI bo) :
    SIM (FOV c) (X9_completes_g11 g i bo oc) i sb rp rf (if 6 ≤ c 6 5 then oc + 1 else oc) ∧ NOWR (FOV c) (X9_completes_g11 g i bo oc) sb rp := by
  have h0 := h
  have hn0 := hn
  obtain ⟨t0, t1, t2, t3, t4, t5, r3, r4, o2, o8, o9, o7, o6, o1⟩ := h
  obtain ⟨n0, n3, n4, n5, n6, n9, n10, n11, n22⟩ := hn
  by_cases hb : 6 ≤ c 6 5
  · rw [if_pos hb]
    have eG : X9_completes_g11 g i bo oc = X9_changesEnds_g1 (X9_completes_g10 g i bo oc) := if_pos (by rw [← n5]; exact hb)
    rw [eG]
    have kfr : ∀ p, OUTR i 1 p → p < 841 → X9_changesEnds_g1 (X9_completes_g10 g i bo oc) p = g p := fun p hp hp2 => by rw [← eG]; exact fr_completes (s := 1) hi hbo hoc hp
    have sc : ∀ p, p < 25 → p ≠ 6 → p ≠ 7 → p ≠ 9 → p ≠ 10 → p ≠ 11 → p ≠ 12 → X9_changesEnds_g1 (X9_completes_g10 g i bo oc) p = g p := fun p h1 h2 h3 h4 h5 h6 h7 => by
      rw [X9_changesEnds_g1, upd_off h3, X9_changesEnds_g0, upd_off h2, cp_10 hi hbo hoc h1 h4 h5 h6 h7]
    have eT : Wn (25 + 11 * i) 11 (X9_changesEnds_g1 (X9_completes_g10 g i bo oc)) = upd (upd (Wn (25 + 11 * i) 11 g) 8 (nI (oc + 1))) 10 0 := by
      rw [cp_W (by omega), X9_completes_g6, Wn_in (by omega), X9_completes_g5, Wn_out (by omega), X9_completes_g2, Wn_out (by omega), X9_completes_g1, Wn_in (by omega), X9_completes_g0, Wn_out (by omega)]
    have eB : Wn (69 + 66 * i) 66 (X9_changesEnds_g1 (X9_completes_g10 g i bo oc)) = Wn (69 + 66 * i) 66 g := by
      rw [cp_W (by omega), X9_completes_g6, Wn_out (by omega), X9_completes_g5, Wn_out (by omega), X9_completes_g2, Wn_out (by omega), X9_completes_g1, Wn_out (by omega), X9_completes_g0, Wn_out (by omega)]
    have eO : Wn (333 + 77 * i) 77 (X9_changesEnds_g1 (X9_completes_g10 g i bo oc)) = incr (incr (Wn (333 + 77 * i) 77 g) (bo * 7 + 6) 1) (bo * 7 + 3) (X0_finishOver_x0 (g 11)) := by
      rw [cp_W (by omega), X9_completes_g6, Wn_out (by omega), e_c5, W2_inI hbo (by omega), e_c2, W2_inI hbo (by omega), X9_completes_g1, Wn_out (by omega), X9_completes_g0, Wn_out (by omega), cp_x3 hbo hi]
    have eP : Wn (841 + 8 * sb) (8 * rp) (X9_changesEnds_g1 (X9_completes_g10 g i bo oc)) = Wn (841 + 8 * sb) (8 * rp) g := by
      rw [cp_W (by omega), X9_completes_g6, Wn_out (by omega), X9_completes_g5, Wn_out (by omega), X9_completes_g2, Wn_out (by omega), X9_completes_g1, Wn_out (by omega), X9_completes_g0, Wn_out (by omega)]
    have eF : Wn (641 + 30 * i) 30 (X9_changesEnds_g1 (X9_completes_g10 g i bo oc)) = Wn (641 + 30 * i) 30 g := by
      rw [cp_W (by omega), X9_completes_g6, Wn_out (by omega), X9_completes_g5, Wn_out (by omega), X9_completes_g2, Wn_out (by omega), X9_completes_g1, Wn_out (by omega), X9_completes_g0, Wn_out (by omega)]
    have eV : Wn (761 + 20 * i) 20 (X9_changesEnds_g1 (X9_completes_g10 g i bo oc)) = upd (Wn (761 + 20 * i) 20 g) oc (g (25 + 11 * i + 0)) := by
      rw [cp_W (by omega), X9_completes_g6, Wn_out (by omega), X9_completes_g5, Wn_out (by omega), X9_completes_g2, Wn_out (by omega), X9_completes_g1, Wn_out (by omega), X9_completes_g0, Wn_in (by omega)]
    have e8 := congrFun eT 8
    have e9 := congrFun eT 9
    have e10 := congrFun eT 10
    rw [Wn_at (by omega)] at e8 e9 e10
    have f0 : ¬ nI oc < 0 := Int32.not_lt.mpr (nI_nn oc (by omega))
    have f20 : ¬ (20 : Int32) ≤ nI oc := fun q => by
      have := (nI_leI (a := 20) (b := oc) (by omega) (by omega)).mp q
      omega
    refine ⟨⟨?_, ?_, ?_, ?_, ?_, ?_, r3, r4, ?_, ?_, ?_, ?_, ?_, ?_⟩, ?_, ?_, ?_, ?_, ?_, ?_, ?_, ?_, ?_⟩
    · rw [eT]; exact EQ_updO (EQ_updO t0 (by omega)) (by omega)
    · rw [eB]; exact t1
    · rw [eO]
      show EQ 77 (X0_finishOver_g3 (c 2) (c 6 3) (c 6 5) (c 6 6)) _
      unfold X0_finishOver_g3
      rw [if_pos hb, h3, ti7_6 hbo, ti7_3 hbo, n6]
      exact EQ_incr (EQ_incr t2 (by omega)) (by omega)
    · rw [eP]; exact t3
    · rw [eF]; exact t4
    · rw [eV]
      show EQ (oc + 1) (X0_finishOver_g4 (c 0) (c 5) (c 6 2) (c 6 5)) _
      unfold X0_finishOver_g4
      rw [if_pos hb, o2]
      unfold X3_finishOver_g3 X3_finishOver_g1 X3_finishOver_g0
      rw [if_neg f0, if_neg f20, nI_c (by omega), tg8 (c := 0) 0 rfl (by omega)]
      intro k hk
      rw [upd_ap, upd_ap]
      by_cases hk2 : k = oc
      · rw [if_pos hk2, if_pos hk2, t0 0 (by omega), Wn_at (by omega)]
      · rw [if_neg hk2, if_neg hk2]; exact t5 k (by omega)
    · show X0_finishOver_x5 (c 6 2) (c 6 5) = _
      unfold X0_finishOver_x5 X3_finishOver_x4 X3_finishOver_x2
      rw [if_pos hb, o2, if_neg f0, if_neg f20]
      exact nI_add oc 1
    · rw [e8, upd_off (by omega), upd_at]
    · rw [e9, upd_off (by omega), upd_off (by omega), Wn_at (by omega)]; exact o9
    · rw [e10, upd_at]
      exact if_pos hb
    · show c 6 8 = _
      rw [sc (14 + i) (by omega) (by omega) (by omega) (by omega) (by omega) (by omega) (by omega)]; exact o6
    · show c 6 1 = _
      rw [sc (18 + i) (by omega) (by omega) (by omega) (by omega) (by omega) (by omega) (by omega)]; exact o1
    · show c 6 0 = _
      rw [sc 13 (by omega) (by omega) (by omega) (by omega) (by omega) (by omega) (by omega)]; exact n0
    · show X0_finishOver_x6 (c 6 3) (c 6 5) = _
      rw [X9_changesEnds_g1, upd_off (by omega), X9_changesEnds_g0, upd_off (by omega), X9_completes_g10, upd_off (by omega), X9_completes_g9, upd_off (by omega), X9_completes_g8, upd_at]
      exact if_pos hb
    · show X0_finishOver_x7 (c 6 3) (c 6 4) (c 6 5) = _
      rw [X9_changesEnds_g1, upd_off (by omega), X9_changesEnds_g0, upd_off (by omega), X9_completes_g10, upd_off (by omega), X9_completes_g9, upd_off (by omega), X9_completes_g8, upd_off (by omega), X9_completes_g7, upd_at, ← h3]
      exact if_pos hb
    · show X0_finishOver_x8 (c 6 5) = _
      rw [X9_changesEnds_g1, upd_off (by omega), X9_changesEnds_g0, upd_off (by omega), X9_completes_g10, upd_off (by omega), X9_completes_g9, upd_at]
      exact if_pos hb
    · show X0_finishOver_x9 (c 6 5) (c 6 6) = _
      rw [X9_changesEnds_g1, upd_off (by omega), X9_changesEnds_g0, upd_off (by omega), X9_completes_g10, upd_at]
      exact if_pos hb
    · show X0_finishOver_x1 (c 6 5) (c 6 9) (c 6 10) = _
      rw [rd_X9_changesEnds_6, cp_10 hi hbo hoc (by omega) (by omega) (by omega) (by omega) (by omega), ← n10]
      exact if_pos hb
    · show X0_finishOver_x2 (c 6 5) (c 6 9) (c 6 10) = _
      rw [rd_X9_changesEnds_7, cp_10 hi hbo hoc (by omega) (by omega) (by omega) (by omega) (by omega), ← n9]
      exact if_pos hb
    · show c 6 11 = _
      rw [sc 8 (by omega) (by omega) (by omega) (by omega) (by omega) (by omega) (by omega)]; exact n11
    · rw [sc 22 (by omega) (by omega) (by omega) (by omega) (by omega) (by omega) (by omega)]; exact n22
  · rw [if_neg hb]
    have eG : X9_completes_g11 g i bo oc = g := if_neg (by rw [← n5]; exact hb)
    have eC : FOV c = c := by
      funext t
      match t with
      | 0 => rfl
      | 1 => rfl
      | 2 => exact if_neg hb
      | 3 => rfl
      | 4 => rfl
      | 5 => exact if_neg hb
      | 6 =>
        funext k
        match k with
        | 0 => rfl
        | 1 => rfl
        | 2 => exact if_neg hb
        | 3 => exact if_neg hb
        | 4 => exact if_neg hb
        | 5 => exact if_neg hb
        | 6 => exact if_neg hb
        | 7 => exact if_neg hb
        | 8 => rfl
        | 9 => exact if_neg hb
        | 10 => exact if_neg hb
        | k + 11 => rfl
      | t + 7 => rfl
    rw [eG, eC]
    exact ⟨h0, hn0⟩
