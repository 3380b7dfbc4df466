/-! THE SEVEN COMMANDS -/
theorem x0_ball {a b c : Int32} (h : ¬ X9_ball_x0 a b c = 1) : X9_ball_x0 a b c = 0 := by
  unfold X9_ball_x0 at h ⊢
  split
  · rename_i q; rw [if_pos q] at h; exact absurd rfl h
  · rfl
theorem x0_wicket {a b c : Int32} (h : ¬ X9_wicket_x2 a b c = 1) : X9_wicket_x2 a b c = 0 := by
  unfold X9_wicket_x2 X9_wicket_x1 X9_wicket_x0 at h ⊢
  split
  · rename_i q; rw [if_pos q] at h; exact absurd rfl h
  · rename_i q
    rw [if_neg q] at h
    split
    · rename_i q2; rw [if_pos q2] at h; exact absurd rfl h
    · rename_i q2
      rw [if_neg q2] at h
      split
      · rename_i q3; rw [if_pos q3] at h; exact absurd rfl h
      · rfl
theorem wk_bad {a b c : Int32} : X9_wicket_x2 a b c = 1 ↔ BADw a b c := by
  have ea : X9_isIn_x1 a 0 5 = X8_isWithin_x1 a 0 5 := rfl
  have eb : X9_isIn_x1 b 0 2 = X8_isWithin_x1 b 0 2 := rfl
  have ec : X9_isIn_x1 c 0 3 = X8_isWithin_x1 c 0 3 := rfl
  unfold X9_wicket_x2 X9_wicket_x1 X9_wicket_x0 BADw
  rw [ea, eb, ec]
  by_cases h1 : X8_isWithin_x1 a 0 5 = 0
  · rw [if_pos h1]; exact ⟨fun _ => Or.inl h1, fun _ => rfl⟩
  · rw [if_neg h1]
    by_cases h2 : X8_isWithin_x1 b 0 2 = 0
    · rw [if_pos h2]; exact ⟨fun _ => Or.inr (Or.inl h2), fun _ => rfl⟩
    · rw [if_neg h2]
      by_cases h3 : X8_isWithin_x1 c 0 3 = 0
      · rw [if_pos h3]; exact ⟨fun _ => Or.inr (Or.inr h3), fun _ => rfl⟩
      · rw [if_neg h3]
        exact ⟨fun q => absurd q (by decide), fun q => by rcases q with q | q | q; exact absurd q h1; exact absurd q h2; exact absurd q h3⟩
set_option maxRecDepth 100000 in
theorem kL_bowl {l : Launch} (hfl : l.stackTraces = false) {D : va_G} {cy : Nat → ClassId} {f : Hf} {sz : Nat} {AD : Nat → Nat} {q q2 : Nat → Option Nat} {k : Nat} {th : Int32} {o : Nat → Int64} (p0 : Int32) (hk : k ≤ 511) (h : WJ AD cy q q2 k th o f) : hMetH l yL_bowl cL_bowl 4 (some .int) [((0 : Nat), (9 : Nat), (12 : Nat), (19 : Nat)), ((0 : Nat), (9 : Nat), (15 : Nat), (21 : Nat))] { frames := 9, cells := 64, slots := 600, locals := 170 } D (hTy cy) f sz [.ref (AD 0), .int p0, .ref (AD 138)] (hQi (fun r u => MID AD cy q q2 k (mkS 1 p0 0 0 0 0 0 0 0) (X8_isWithin_x1 p0 0 10 = 0) 2 r u) D f sz) hNo := by
  obtain ⟨hA, xa, xr, xk, hi, tl, w, nS, nC, cm, cs, lo, le, lfi, ge, SS, g, gp, gd, hX, hMc, hC, hRm, hRs, hO, hJ, hb⟩ := h
  obtain ⟨hM, h1, h2, qs, sq, h3, h4⟩ := id hC
  have hw := JM_w hJ
  have hnC := JM_nC hJ
  by_cases v0 : X8_isWithin_x1 p0 0 10 = 0
  · refine h_conH (w_bowl hfl (gl := o) (P := fun _ _ => False) (X := fun E u => E = "java/lang/IndexOutOfBoundsException" ∧ u = f) hX (fun sz => h_mono (c_X8_bowlB1 hfl p0 (x := AD 0) (A := AM AD) (b := 0) (b2 := 54) hX  v0) (Nat.le_of_ble_eq_true rfl) (Nat.le_of_ble_eq_true rfl) (Nat.le_of_ble_eq_true rfl) (Nat.le_of_ble_eq_true rfl)) (fun E u hx => Or.inl hx.1) (fun v w h => h.elim)) ?_
    intro r u hp
    rcases hp with ⟨rfl, v9, w9, hf, -⟩ | ⟨rfl, -, rfl⟩ | ⟨rfl, hx, -⟩
    · exact hf.elim
    · exact ⟨hA, xa, xr, xk, hi, th, tl, w, nS, nC, cm, cs, lo, le, lfi, ge, SS, g, gp, gd, o, hMc, hRm, hRs, hJ, hb, Or.inl ⟨v0, rfl, hX, hC, hO⟩⟩
    · exact absurd hx (by decide)
  · have nb : ¬ (X8_isWithin_x1 p0 0 10 = 0) := v0
    by_cases hR : rfR cm cs (mkS 1 p0 0 0 0 0 0 0 0) = 0
    · have hPP : PP cm cs := RR_PP (by omega) (JL_RR (JM_live hJ hR))
      refine h_conH (w_bowl hfl (gl := o) (X := hNo) hX (fun sz => h_mono (c_X8_bowlA hfl p0 (x := AD 0) (A := AM AD) (b := 0) (b2 := 54) (q := q) hX h1 h3 h2 (AM_ne hA) hM hA.2.1 (nMA hA (by omega)) (nMA hA (by omega))  v0 (Or.inr hPP) hPP hR (by omega) (by omega) (room_N (by omega) (by omega))) (Nat.le_of_ble_eq_true rfl) (Nat.le_of_ble_eq_true rfl) (Nat.le_of_ble_eq_true rfl) (Nat.le_of_ble_eq_true rfl)) (fun _ _ h => False.elim h) (fun v9 u9 hp => by
        obtain ⟨w9, -, -, -, -, -, -, -, y5⟩ := hp
        exact OUT_fr (fr_m hA hC y5) (by unfold IM; omega) hO)) ?_
      intro r u hp
      rcases hp with ⟨rfl, v9, u9, ⟨w9, -, h9, e9, y1, y2, y3, y4, y5⟩, hu⟩ | ⟨rfl, hx⟩ | ⟨rfl, hx⟩
      · obtain ⟨a1, a2, a3, a4, a5, a6⟩ := mA (S := mkS 1 p0 0 0 0 0 0 0 0) hA hX hMc hC hRm hRs hO hw h4 h9 y1 y2 y3 y4 y5 hu
        rw [e9] at a6
        exact ⟨hA, xa, xr, xk, hi, th, tl, w, nS, nC, cm, cs, lo, le, lfi, ge, SS, g, gp, gd, o, a2, a4, a5, hJ, hb, Or.inr (Or.inr ⟨nb, hR, rfl, a1, a3, a6⟩)⟩
      · exact False.elim hx
      · exact False.elim hx
    · refine h_conH (w_bowl hfl (gl := o) (P := fun _ _ => False) hX (fun sz => h_mono (c_X8_bowlR hfl p0 (x := AD 0) (A := AM AD) (b := 0) (b2 := 54) (q := q) hX (AM_ne hA) hM hA.2.1  v0 (JM_PX hJ (by omega)) hR) (Nat.le_of_ble_eq_true rfl) (Nat.le_of_ble_eq_true rfl) (Nat.le_of_ble_eq_true rfl) (Nat.le_of_ble_eq_true rfl)) (fun E u hx => Or.inr hx.1) (fun v w h => h.elim)) ?_
      intro r u hp
      rcases hp with ⟨rfl, v9, w9, hf, -⟩ | ⟨rfl, hx, -⟩ | ⟨rfl, -, hx, -, hfr⟩
      · exact hf.elim
      · exact absurd hx (by decide)
      · have F := fr_x hA hX hfr
        exact ⟨hA, xa, xr, xk, hi, th, tl, w, nS, nC, cm, cs, lo, le, lfi, ge, SS, g, gp, gd, o, MC_fr F (by omega) hMc, RMN_fr F (by omega) (by omega) (by omega) hRm, RST_fr F (fun i h => by omega) (Nat.le_refl _) hRs, hJ, hb, Or.inr (Or.inl ⟨nb, hR, rfl, hx, CMN_fr F (fun i h1 h2 => by omega) (by omega) (by omega) (by omega) hC, OUT_fr F (by omega) hO⟩)⟩
set_option maxRecDepth 100000 in
theorem kR_bowl {l : Launch} (hfl : l.stackTraces = false) {D : va_G} {cy : Nat → ClassId} {f : Hf} {sz : Nat} {AD : Nat → Nat} {q q2 : Nat → Option Nat} {k : Nat} {r : Int32} (p0 : Int32) (hk : k ≤ 511) (h : MID AD cy q q2 k (mkS 1 p0 0 0 0 0 0 0 0) (X8_isWithin_x1 p0 0 10 = 0) 2 r f) : hMet l yX9_bowl cX9_bowl 2 (some .int) { frames := 6, cells := 0, slots := 0, locals := 158 } D (hTy cy) f sz [.ref (AD 125), .int p0] (hQi (fun b u => ∃ o, WJ AD cy q q2 (k + 1) r o u ∧ (r = 0 → o 0 = b.toInt64)) D f sz) hNo := by
  obtain ⟨hA, xa, xr, xk, hi, th, tl, w, nS, nC, cm, cs, lo, le, lfi, ge, SS, g, gp, gd, o, hMc, hRm, hRs, hJ, hb, hc⟩ := h
  obtain ⟨ps, pl, to, hm⟩ := id hMc
  have hw := JM_w hJ
  have hS : ¬ (X8_isWithin_x1 p0 0 10 = 0) → OKS (mkS 1 p0 0 0 0 0 0 0 0) := fun z => ok_bowl z
  have hcd := cds_bowl (p := p0)
  have hE := fun (ct cr code : Int32) => cmd_eq (g := g) (gp := gp) (gd := gd) hcd ct cr code w
  obtain ⟨c0, c1, c2, c3, c4, c5⟩ := id hcd
  have hpar : ¬ (X8_isWithin_x1 p0 0 10 = 0) → PAR _ _ _ := fun z => OKS_PAR (hS z)
  rw [c0, c1, c2] at hpar
  have hdok : ¬ (X8_isWithin_x1 p0 0 10 = 0) → RFG (mkS 1 p0 0 0 0 0 0 0 0) g ≤ 0 → DOK g _ _ _ := fun z y => (JM_step hJ (hS z) (by omega) ((JM_ref hJ (hS z)).trans ((RFG_le (hS z)).mp y))).2.2.1
  rw [c0, c1, c2, ← (hE 0 0 0).1] at hdok
  refine h_conI (h_mono (k_X9_bowl hfl (D := D) (un := w) p0 hm hRm.1 hRm.2.1 hRm.2.2 (by omega) (fun _ => JM_4 hJ) (fun n9 => hpar (fun z => n9 (if_pos z))) (fun n9 y => hdok (fun z => n9 (if_pos z)) y) ) (Nat.le_of_ble_eq_true rfl) (Nat.le_of_ble_eq_true rfl) (Nat.le_of_ble_eq_true rfl) (Nat.le_of_ble_eq_true rfl)) ?_ (fun _ _ h => h)
  intro b u hp
  obtain ⟨er, em, ep, ed, ev, ef⟩ := hp
  refine post_cmd (bad := X8_isWithin_x1 p0 0 10 = 0) (cR := 2) (S := mkS 1 p0 0 0 0 0 0 0 0) hA hk (by decide) hS hMc hRm hRs hJ hb hc ?_ ?_ ⟨_, _, _, em⟩ ep ed ev ef
  · intro z
    have hx : X9_bowl_x0 p0 = 1 := if_pos z
    refine ⟨er.trans ?_, ?_, ?_, ?_, ?_, ?_, ?_⟩
    · unfold X9_bowl_x1; exact (if_pos hx)
    · unfold X9_bowl_x3; exact (if_pos hx).trans hx
    · unfold X9_bowl_x4; exact (if_pos hx)
    · unfold X9_bowl_x5; exact (if_pos hx)
    · unfold X9_bowl_g7; exact (if_pos hx)
    · unfold X9_bowl_g2; exact (if_pos hx)
    · unfold X9_bowl_g6; exact (if_pos hx)
  · intro z
    have hx : ¬ X9_bowl_x0 p0 = 1 := fun y => by rw [show X9_bowl_x0 p0 = 0 from if_neg z] at y; exact absurd y (by decide)
    have hx0 : X9_bowl_x0 p0 = 0 := if_neg z
    refine ⟨er.trans ?_, ?_, ?_, ?_, ?_, ?_, ?_⟩
    · unfold X9_bowl_x1; rw [if_neg hx]; exact (hE 0 0 0).2.1
    · unfold X9_bowl_x3; rw [if_neg hx, hx0]; exact (hE 0 0 2).2.2.2.1
    · unfold X9_bowl_x4; rw [if_neg hx]; exact (hE 0 xk 0).2.2.2.2.1
    · unfold X9_bowl_x5; rw [if_neg hx]; exact (hE 0 0 0).2.2.2.2.2.1
    · unfold X9_bowl_g7; rw [if_neg hx]; exact (hE 0 0 0).2.2.2.2.2.2.2
    · unfold X9_bowl_g2; rw [if_neg hx]; exact (hE 0 0 0).2.2.1
    · unfold X9_bowl_g6; rw [if_neg hx]; exact (hE 0 0 0).2.2.2.2.2.2.1
set_option maxRecDepth 100000 in
theorem kL_ball {l : Launch} (hfl : l.stackTraces = false) {D : va_G} {cy : Nat → ClassId} {f : Hf} {sz : Nat} {AD : Nat → Nat} {q q2 : Nat → Option Nat} {k : Nat} {th : Int32} {o : Nat → Int64} (p0 p1 p2 : Int32) (hk : k ≤ 511) (hb_p2 : p2 = 0 ∨ p2 = 1) (h : WJ AD cy q q2 k th o f) : hMetH l yL_ball cL_ball 6 (some .int) [((0 : Nat), (12 : Nat), (15 : Nat), (13 : Nat)), ((0 : Nat), (12 : Nat), (19 : Nat), (21 : Nat))] { frames := 9, cells := 64, slots := 600, locals := 170 } D (hTy cy) f sz [.ref (AD 0), .int p0, .int p1, .int p2, .ref (AD 138)] (hQi (fun r u => MID AD cy q q2 k (mkS 2 0 0 p0 p1 0 p2 0 0) (BADb p0 p1 p2) 2 r u) D f sz) hNo := by
  obtain ⟨hA, xa, xr, xk, hi, tl, w, nS, nC, cm, cs, lo, le, lfi, ge, SS, g, gp, gd, hX, hMc, hC, hRm, hRs, hO, hJ, hb⟩ := h
  obtain ⟨hM, h1, h2, qs, sq, h3, h4⟩ := id hC
  have hw := JM_w hJ
  have hnC := JM_nC hJ
  by_cases v0 : X8_isWithin_x1 p0 0 4 = 0
  · refine h_conH (w_ball hfl (gl := o) (P := fun _ _ => False) (X := fun E u => E = "java/lang/IllegalArgumentException" ∧ u = f) hX (fun sz => h_mono (c_X8_ballB1 hfl p2 p0 p1 (x := AD 0) (A := AM AD) (b := 0) (b2 := 54) hX hb_p2 v0) (Nat.le_of_ble_eq_true rfl) (Nat.le_of_ble_eq_true rfl) (Nat.le_of_ble_eq_true rfl) (Nat.le_of_ble_eq_true rfl)) (fun E u hx => Or.inl hx.1) (fun v w h => h.elim)) ?_
    intro r u hp
    rcases hp with ⟨rfl, v9, w9, hf, -⟩ | ⟨rfl, -, rfl⟩ | ⟨rfl, hx, -⟩
    · exact hf.elim
    · exact ⟨hA, xa, xr, xk, hi, th, tl, w, nS, nC, cm, cs, lo, le, lfi, ge, SS, g, gp, gd, o, hMc, hRm, hRs, hJ, hb, Or.inl ⟨Or.inl v0, rfl, hX, hC, hO⟩⟩
    · exact absurd hx (by decide)
  by_cases v1 : X8_isWithin_x1 p1 (X8_leastRuns_x1 p0) (X8_mostRuns_r2 p0) = 0
  · refine h_conH (w_ball hfl (gl := o) (P := fun _ _ => False) (X := fun E u => E = "java/lang/IllegalArgumentException" ∧ u = f) hX (fun sz => h_mono (c_X8_ballB2 hfl p2 p0 p1 (x := AD 0) (A := AM AD) (b := 0) (b2 := 54) hX hb_p2 v0 v1) (Nat.le_of_ble_eq_true rfl) (Nat.le_of_ble_eq_true rfl) (Nat.le_of_ble_eq_true rfl) (Nat.le_of_ble_eq_true rfl)) (fun E u hx => Or.inl hx.1) (fun v w h => h.elim)) ?_
    intro r u hp
    rcases hp with ⟨rfl, v9, w9, hf, -⟩ | ⟨rfl, -, rfl⟩ | ⟨rfl, hx, -⟩
    · exact hf.elim
    · exact ⟨hA, xa, xr, xk, hi, th, tl, w, nS, nC, cm, cs, lo, le, lfi, ge, SS, g, gp, gd, o, hMc, hRm, hRs, hJ, hb, Or.inl ⟨Or.inr (Or.inl v1), rfl, hX, hC, hO⟩⟩
    · exact absurd hx (by decide)
  by_cases v2 : p2 = 0
  · have nb : ¬ (BADb p0 p1 p2) := (fun z => by rcases z with z | z | z; exact v0 z; exact v1 z; exact z.1 v2)
    by_cases hR : rfR cm cs (mkS 2 0 0 p0 p1 0 p2 0 0) = 0
    · have hPP : PP cm cs := RR_PP (by omega) (JL_RR (JM_live hJ hR))
      refine h_conH (w_ball hfl (gl := o) (X := hNo) hX (fun sz => h_mono (c_X8_ballAa hfl p2 p0 p1 (x := AD 0) (A := AM AD) (b := 0) (b2 := 54) (q := q) hX h1 h3 h2 (AM_ne hA) hM hA.2.1 (nMA hA (by omega)) (nMA hA (by omega)) hb_p2 v0 v1 v2 (Or.inr hPP) hPP hR (by omega) (by omega) (room_N (by omega) (by omega))) (Nat.le_of_ble_eq_true rfl) (Nat.le_of_ble_eq_true rfl) (Nat.le_of_ble_eq_true rfl) (Nat.le_of_ble_eq_true rfl)) (fun _ _ h => False.elim h) (fun v9 u9 hp => by
        obtain ⟨w9, -, -, -, -, -, -, -, y5⟩ := hp
        exact OUT_fr (fr_m hA hC y5) (by unfold IM; omega) hO)) ?_
      intro r u hp
      rcases hp with ⟨rfl, v9, u9, ⟨w9, -, h9, e9, y1, y2, y3, y4, y5⟩, hu⟩ | ⟨rfl, hx⟩ | ⟨rfl, hx⟩
      · obtain ⟨a1, a2, a3, a4, a5, a6⟩ := mA (S := mkS 2 0 0 p0 p1 0 p2 0 0) hA hX hMc hC hRm hRs hO hw h4 h9 y1 y2 y3 y4 y5 hu
        rw [e9] at a6
        exact ⟨hA, xa, xr, xk, hi, th, tl, w, nS, nC, cm, cs, lo, le, lfi, ge, SS, g, gp, gd, o, a2, a4, a5, hJ, hb, Or.inr (Or.inr ⟨nb, hR, rfl, a1, a3, a6⟩)⟩
      · exact False.elim hx
      · exact False.elim hx
    · refine h_conH (w_ball hfl (gl := o) (P := fun _ _ => False) hX (fun sz => h_mono (c_X8_ballRa hfl p2 p0 p1 (x := AD 0) (A := AM AD) (b := 0) (b2 := 54) (q := q) hX (AM_ne hA) hM hA.2.1 hb_p2 v0 v1 v2 (JM_PX hJ (by omega)) hR) (Nat.le_of_ble_eq_true rfl) (Nat.le_of_ble_eq_true rfl) (Nat.le_of_ble_eq_true rfl) (Nat.le_of_ble_eq_true rfl)) (fun E u hx => Or.inr hx.1) (fun v w h => h.elim)) ?_
      intro r u hp
      rcases hp with ⟨rfl, v9, w9, hf, -⟩ | ⟨rfl, hx, -⟩ | ⟨rfl, -, hx, -, hfr⟩
      · exact hf.elim
      · exact absurd hx (by decide)
      · have F := fr_x hA hX hfr
        exact ⟨hA, xa, xr, xk, hi, th, tl, w, nS, nC, cm, cs, lo, le, lfi, ge, SS, g, gp, gd, o, MC_fr F (by omega) hMc, RMN_fr F (by omega) (by omega) (by omega) hRm, RST_fr F (fun i h => by omega) (Nat.le_refl _) hRs, hJ, hb, Or.inr (Or.inl ⟨nb, hR, rfl, hx, CMN_fr F (fun i h1 h2 => by omega) (by omega) (by omega) (by omega) hC, OUT_fr F (by omega) hO⟩)⟩
  by_cases v3 : X8_canBeBoundary_x3 p0 p1 = 0
  · refine h_conH (w_ball hfl (gl := o) (P := fun _ _ => False) (X := fun E u => E = "java/lang/IllegalArgumentException" ∧ u = f) hX (fun sz => h_mono (c_X8_ballB3 hfl p2 p0 p1 (x := AD 0) (A := AM AD) (b := 0) (b2 := 54) hX hb_p2 v0 v1 v2 v3) (Nat.le_of_ble_eq_true rfl) (Nat.le_of_ble_eq_true rfl) (Nat.le_of_ble_eq_true rfl) (Nat.le_of_ble_eq_true rfl)) (fun E u hx => Or.inl hx.1) (fun v w h => h.elim)) ?_
    intro r u hp
    rcases hp with ⟨rfl, v9, w9, hf, -⟩ | ⟨rfl, -, rfl⟩ | ⟨rfl, hx, -⟩
    · exact hf.elim
    · exact ⟨hA, xa, xr, xk, hi, th, tl, w, nS, nC, cm, cs, lo, le, lfi, ge, SS, g, gp, gd, o, hMc, hRm, hRs, hJ, hb, Or.inl ⟨Or.inr (Or.inr ⟨v2, v3⟩), rfl, hX, hC, hO⟩⟩
    · exact absurd hx (by decide)
  have nb : ¬ (BADb p0 p1 p2) := (fun z => by rcases z with z | z | z; exact v0 z; exact v1 z; exact v3 z.2)
  by_cases hR : rfR cm cs (mkS 2 0 0 p0 p1 0 p2 0 0) = 0
  · have hPP : PP cm cs := RR_PP (by omega) (JL_RR (JM_live hJ hR))
    refine h_conH (w_ball hfl (gl := o) (X := hNo) hX (fun sz => h_mono (c_X8_ballAb hfl p2 p0 p1 (x := AD 0) (A := AM AD) (b := 0) (b2 := 54) (q := q) hX h1 h3 h2 (AM_ne hA) hM hA.2.1 (nMA hA (by omega)) (nMA hA (by omega)) hb_p2 v0 v1 v2 v3 (Or.inr hPP) hPP hR (by omega) (by omega) (room_N (by omega) (by omega))) (Nat.le_of_ble_eq_true rfl) (Nat.le_of_ble_eq_true rfl) (Nat.le_of_ble_eq_true rfl) (Nat.le_of_ble_eq_true rfl)) (fun _ _ h => False.elim h) (fun v9 u9 hp => by
      obtain ⟨w9, -, -, -, -, -, -, -, y5⟩ := hp
      exact OUT_fr (fr_m hA hC y5) (by unfold IM; omega) hO)) ?_
    intro r u hp
    rcases hp with ⟨rfl, v9, u9, ⟨w9, -, h9, e9, y1, y2, y3, y4, y5⟩, hu⟩ | ⟨rfl, hx⟩ | ⟨rfl, hx⟩
    · obtain ⟨a1, a2, a3, a4, a5, a6⟩ := mA (S := mkS 2 0 0 p0 p1 0 p2 0 0) hA hX hMc hC hRm hRs hO hw h4 h9 y1 y2 y3 y4 y5 hu
      rw [e9] at a6
      exact ⟨hA, xa, xr, xk, hi, th, tl, w, nS, nC, cm, cs, lo, le, lfi, ge, SS, g, gp, gd, o, a2, a4, a5, hJ, hb, Or.inr (Or.inr ⟨nb, hR, rfl, a1, a3, a6⟩)⟩
    · exact False.elim hx
    · exact False.elim hx
  · refine h_conH (w_ball hfl (gl := o) (P := fun _ _ => False) hX (fun sz => h_mono (c_X8_ballRb hfl p2 p0 p1 (x := AD 0) (A := AM AD) (b := 0) (b2 := 54) (q := q) hX (AM_ne hA) hM hA.2.1 hb_p2 v0 v1 v2 v3 (JM_PX hJ (by omega)) hR) (Nat.le_of_ble_eq_true rfl) (Nat.le_of_ble_eq_true rfl) (Nat.le_of_ble_eq_true rfl) (Nat.le_of_ble_eq_true rfl)) (fun E u hx => Or.inr hx.1) (fun v w h => h.elim)) ?_
    intro r u hp
    rcases hp with ⟨rfl, v9, w9, hf, -⟩ | ⟨rfl, hx, -⟩ | ⟨rfl, -, hx, -, hfr⟩
    · exact hf.elim
    · exact absurd hx (by decide)
    · have F := fr_x hA hX hfr
      exact ⟨hA, xa, xr, xk, hi, th, tl, w, nS, nC, cm, cs, lo, le, lfi, ge, SS, g, gp, gd, o, MC_fr F (by omega) hMc, RMN_fr F (by omega) (by omega) (by omega) hRm, RST_fr F (fun i h => by omega) (Nat.le_refl _) hRs, hJ, hb, Or.inr (Or.inl ⟨nb, hR, rfl, hx, CMN_fr F (fun i h1 h2 => by omega) (by omega) (by omega) (by omega) hC, OUT_fr F (by omega) hO⟩)⟩
set_option maxRecDepth 100000 in
theorem kR_ball {l : Launch} (hfl : l.stackTraces = false) {D : va_G} {cy : Nat → ClassId} {f : Hf} {sz : Nat} {AD : Nat → Nat} {q q2 : Nat → Option Nat} {k : Nat} {r : Int32} (p0 p1 p2 : Int32) (hk : k ≤ 511) (hb_p2 : p2 = 0 ∨ p2 = 1) (h : MID AD cy q q2 k (mkS 2 0 0 p0 p1 0 p2 0 0) (BADb p0 p1 p2) 2 r f) : hMet l yX9_ball cX9_ball 4 (some .int) { frames := 6, cells := 0, slots := 0, locals := 158 } D (hTy cy) f sz [.ref (AD 125), .int p0, .int p1, .int p2] (hQi (fun b u => ∃ o, WJ AD cy q q2 (k + 1) r o u ∧ (r = 0 → o 0 = b.toInt64)) D f sz) hNo := by
  obtain ⟨hA, xa, xr, xk, hi, th, tl, w, nS, nC, cm, cs, lo, le, lfi, ge, SS, g, gp, gd, o, hMc, hRm, hRs, hJ, hb, hc⟩ := h
  obtain ⟨ps, pl, to, hm⟩ := id hMc
  have hw := JM_w hJ
  have hS : ¬ (BADb p0 p1 p2) → OKS (mkS 2 0 0 p0 p1 0 p2 0 0) := fun z => ok_ball z hb_p2
  have hcd := cds_ball (a := p0) (b := p1) hb_p2
  have hE := fun (ct cr code : Int32) => cmd_eq (g := g) (gp := gp) (gd := gd) hcd ct cr code w
  obtain ⟨c0, c1, c2, c3, c4, c5⟩ := id hcd
  have hpar : ¬ (BADb p0 p1 p2) → PAR _ _ _ := fun z => OKS_PAR (hS z)
  rw [c0, c1, c2] at hpar
  have hdok : ¬ (BADb p0 p1 p2) → RFG (mkS 2 0 0 p0 p1 0 p2 0 0) g ≤ 0 → DOK g _ _ _ := fun z y => (JM_step hJ (hS z) (by omega) ((JM_ref hJ (hS z)).trans ((RFG_le (hS z)).mp y))).2.2.1
  rw [c0, c1, c2, ← (hE 0 0 0).1] at hdok
  refine h_conI (h_mono (k_X9_ball hfl (D := D) (un := w) p0 p1 p2 hm hRm.1 hRm.2.1 hRm.2.2 (by omega) (fun _ => JM_4 hJ) (fun n9 => hpar (fun z => n9 (if_pos (ball_bad.mpr z)))) (fun n9 y => hdok (fun z => n9 (if_pos (ball_bad.mpr z))) y) hb_p2) (Nat.le_of_ble_eq_true rfl) (Nat.le_of_ble_eq_true rfl) (Nat.le_of_ble_eq_true rfl) (Nat.le_of_ble_eq_true rfl)) ?_ (fun _ _ h => h)
  intro b u hp
  obtain ⟨er, em, ep, ed, ev, ef⟩ := hp
  refine post_cmd (bad := BADb p0 p1 p2) (cR := 2) (S := mkS 2 0 0 p0 p1 0 p2 0 0) hA hk (by decide) hS hMc hRm hRs hJ hb hc ?_ ?_ ⟨_, _, _, em⟩ ep ed ev ef
  · intro z
    have hx : X9_ball_x0 p0 p1 p2 = 1 := if_pos (ball_bad.mpr z)
    refine ⟨er.trans ?_, ?_, ?_, ?_, ?_, ?_, ?_⟩
    · unfold X9_ball_x1; exact (if_pos hx)
    · unfold X9_ball_x3; exact (if_pos hx).trans hx
    · unfold X9_ball_x4; exact (if_pos hx)
    · unfold X9_ball_x5; exact (if_pos hx)
    · unfold X9_ball_g7; exact (if_pos hx)
    · unfold X9_ball_g2; exact (if_pos hx)
    · unfold X9_ball_g6; exact (if_pos hx)
  · intro z
    have hx : ¬ X9_ball_x0 p0 p1 p2 = 1 := fun y => z (ball_bad.mp (Decidable.byContradiction (fun q9 => by rw [show X9_ball_x0 p0 p1 p2 = 0 from if_neg q9] at y; exact absurd y (by decide))))
    have hx0 : X9_ball_x0 p0 p1 p2 = 0 := x0_ball hx
    refine ⟨er.trans ?_, ?_, ?_, ?_, ?_, ?_, ?_⟩
    · unfold X9_ball_x1; rw [if_neg hx]; exact (hE 0 0 0).2.1
    · unfold X9_ball_x3; rw [if_neg hx, hx0]; exact (hE 0 0 2).2.2.2.1
    · unfold X9_ball_x4; rw [if_neg hx]; exact (hE 0 xk 0).2.2.2.2.1
    · unfold X9_ball_x5; rw [if_neg hx]; exact (hE 0 0 0).2.2.2.2.2.1
    · unfold X9_ball_g7; rw [if_neg hx]; exact (hE 0 0 0).2.2.2.2.2.2.2
    · unfold X9_ball_g2; rw [if_neg hx]; exact (hE 0 0 0).2.2.1
    · unfold X9_ball_g6; rw [if_neg hx]; exact (hE 0 0 0).2.2.2.2.2.2.1
set_option maxRecDepth 100000 in
theorem kL_wicket {l : Launch} (hfl : l.stackTraces = false) {D : va_G} {cy : Nat → ClassId} {f : Hf} {sz : Nat} {AD : Nat → Nat} {q q2 : Nat → Option Nat} {k : Nat} {th : Int32} {o : Nat → Int64} (p0 p1 p2 p3 p4 : Int32) (hk : k ≤ 511) (hb_p2 : p2 = 0 ∨ p2 = 1) (hb_p4 : p4 = 0 ∨ p4 = 1) (h : WJ AD cy q q2 k th o f) : hMetH l yL_wicket cL_wicket 8 (some .int) [((0 : Nat), (16 : Nat), (19 : Nat), (13 : Nat)), ((0 : Nat), (16 : Nat), (23 : Nat), (21 : Nat))] { frames := 9, cells := 64, slots := 600, locals := 170 } D (hTy cy) f sz [.ref (AD 0), .int p0, .int p1, .int p2, .int p3, .int p4, .ref (AD 138)] (hQi (fun r u => MID AD cy q q2 k (mkS 3 0 p0 p1 p3 p2 0 p4 0) (BADw p0 p1 p3) 2 r u) D f sz) hNo := by
  obtain ⟨hA, xa, xr, xk, hi, tl, w, nS, nC, cm, cs, lo, le, lfi, ge, SS, g, gp, gd, hX, hMc, hC, hRm, hRs, hO, hJ, hb⟩ := h
  obtain ⟨hM, h1, h2, qs, sq, h3, h4⟩ := id hC
  have hw := JM_w hJ
  have hnC := JM_nC hJ
  by_cases v0 : X8_isWithin_x1 p0 0 5 = 0
  · refine h_conH (w_wicket hfl (gl := o) (P := fun _ _ => False) (X := fun E u => E = "java/lang/IllegalArgumentException" ∧ u = f) hX (fun sz => h_mono (c_X8_wicketB1 hfl p2 p4 p0 p1 p3 (x := AD 0) (A := AM AD) (b := 0) (b2 := 54) hX hb_p2 hb_p4 v0) (Nat.le_of_ble_eq_true rfl) (Nat.le_of_ble_eq_true rfl) (Nat.le_of_ble_eq_true rfl) (Nat.le_of_ble_eq_true rfl)) (fun E u hx => Or.inl hx.1) (fun v w h => h.elim)) ?_
    intro r u hp
    rcases hp with ⟨rfl, v9, w9, hf, -⟩ | ⟨rfl, -, rfl⟩ | ⟨rfl, hx, -⟩
    · exact hf.elim
    · exact ⟨hA, xa, xr, xk, hi, th, tl, w, nS, nC, cm, cs, lo, le, lfi, ge, SS, g, gp, gd, o, hMc, hRm, hRs, hJ, hb, Or.inl ⟨Or.inl v0, rfl, hX, hC, hO⟩⟩
    · exact absurd hx (by decide)
  by_cases v1 : X8_isWithin_x1 p1 0 2 = 0
  · refine h_conH (w_wicket hfl (gl := o) (P := fun _ _ => False) (X := fun E u => E = "java/lang/IllegalArgumentException" ∧ u = f) hX (fun sz => h_mono (c_X8_wicketB2 hfl p2 p4 p0 p1 p3 (x := AD 0) (A := AM AD) (b := 0) (b2 := 54) hX hb_p2 hb_p4 v0 v1) (Nat.le_of_ble_eq_true rfl) (Nat.le_of_ble_eq_true rfl) (Nat.le_of_ble_eq_true rfl) (Nat.le_of_ble_eq_true rfl)) (fun E u hx => Or.inl hx.1) (fun v w h => h.elim)) ?_
    intro r u hp
    rcases hp with ⟨rfl, v9, w9, hf, -⟩ | ⟨rfl, -, rfl⟩ | ⟨rfl, hx, -⟩
    · exact hf.elim
    · exact ⟨hA, xa, xr, xk, hi, th, tl, w, nS, nC, cm, cs, lo, le, lfi, ge, SS, g, gp, gd, o, hMc, hRm, hRs, hJ, hb, Or.inl ⟨Or.inr (Or.inl v1), rfl, hX, hC, hO⟩⟩
    · exact absurd hx (by decide)
  by_cases v2 : X8_isWithin_x1 p3 0 3 = 0
  · refine h_conH (w_wicket hfl (gl := o) (P := fun _ _ => False) (X := fun E u => E = "java/lang/IllegalArgumentException" ∧ u = f) hX (fun sz => h_mono (c_X8_wicketB3 hfl p2 p4 p0 p1 p3 (x := AD 0) (A := AM AD) (b := 0) (b2 := 54) hX hb_p2 hb_p4 v0 v1 v2) (Nat.le_of_ble_eq_true rfl) (Nat.le_of_ble_eq_true rfl) (Nat.le_of_ble_eq_true rfl) (Nat.le_of_ble_eq_true rfl)) (fun E u hx => Or.inl hx.1) (fun v w h => h.elim)) ?_
    intro r u hp
    rcases hp with ⟨rfl, v9, w9, hf, -⟩ | ⟨rfl, -, rfl⟩ | ⟨rfl, hx, -⟩
    · exact hf.elim
    · exact ⟨hA, xa, xr, xk, hi, th, tl, w, nS, nC, cm, cs, lo, le, lfi, ge, SS, g, gp, gd, o, hMc, hRm, hRs, hJ, hb, Or.inl ⟨Or.inr (Or.inr v2), rfl, hX, hC, hO⟩⟩
    · exact absurd hx (by decide)
  have nb : ¬ (BADw p0 p1 p3) := (fun z => by rcases z with z | z | z; exact v0 z; exact v1 z; exact v2 z)
  by_cases hR : rfR cm cs (mkS 3 0 p0 p1 p3 p2 0 p4 0) = 0
  · have hPP : PP cm cs := RR_PP (by omega) (JL_RR (JM_live hJ hR))
    refine h_conH (w_wicket hfl (gl := o) (X := hNo) hX (fun sz => h_mono (c_X8_wicketA hfl p2 p4 p0 p1 p3 (x := AD 0) (A := AM AD) (b := 0) (b2 := 54) (q := q) hX h1 h3 h2 (AM_ne hA) hM hA.2.1 (nMA hA (by omega)) (nMA hA (by omega)) hb_p2 hb_p4 v0 v1 v2 (Or.inr hPP) hPP hR (by omega) (by omega) (room_N (by omega) (by omega))) (Nat.le_of_ble_eq_true rfl) (Nat.le_of_ble_eq_true rfl) (Nat.le_of_ble_eq_true rfl) (Nat.le_of_ble_eq_true rfl)) (fun _ _ h => False.elim h) (fun v9 u9 hp => by
      obtain ⟨w9, -, -, -, -, -, -, -, y5⟩ := hp
      exact OUT_fr (fr_m hA hC y5) (by unfold IM; omega) hO)) ?_
    intro r u hp
    rcases hp with ⟨rfl, v9, u9, ⟨w9, -, h9, e9, y1, y2, y3, y4, y5⟩, hu⟩ | ⟨rfl, hx⟩ | ⟨rfl, hx⟩
    · obtain ⟨a1, a2, a3, a4, a5, a6⟩ := mA (S := mkS 3 0 p0 p1 p3 p2 0 p4 0) hA hX hMc hC hRm hRs hO hw h4 h9 y1 y2 y3 y4 y5 hu
      rw [e9] at a6
      exact ⟨hA, xa, xr, xk, hi, th, tl, w, nS, nC, cm, cs, lo, le, lfi, ge, SS, g, gp, gd, o, a2, a4, a5, hJ, hb, Or.inr (Or.inr ⟨nb, hR, rfl, a1, a3, a6⟩)⟩
    · exact False.elim hx
    · exact False.elim hx
  · refine h_conH (w_wicket hfl (gl := o) (P := fun _ _ => False) hX (fun sz => h_mono (c_X8_wicketR hfl p2 p4 p0 p1 p3 (x := AD 0) (A := AM AD) (b := 0) (b2 := 54) (q := q) hX (AM_ne hA) hM hA.2.1 hb_p2 hb_p4 v0 v1 v2 (JM_PX hJ (by omega)) hR) (Nat.le_of_ble_eq_true rfl) (Nat.le_of_ble_eq_true rfl) (Nat.le_of_ble_eq_true rfl) (Nat.le_of_ble_eq_true rfl)) (fun E u hx => Or.inr hx.1) (fun v w h => h.elim)) ?_
    intro r u hp
    rcases hp with ⟨rfl, v9, w9, hf, -⟩ | ⟨rfl, hx, -⟩ | ⟨rfl, -, hx, -, hfr⟩
    · exact hf.elim
    · exact absurd hx (by decide)
    · have F := fr_x hA hX hfr
      exact ⟨hA, xa, xr, xk, hi, th, tl, w, nS, nC, cm, cs, lo, le, lfi, ge, SS, g, gp, gd, o, MC_fr F (by omega) hMc, RMN_fr F (by omega) (by omega) (by omega) hRm, RST_fr F (fun i h => by omega) (Nat.le_refl _) hRs, hJ, hb, Or.inr (Or.inl ⟨nb, hR, rfl, hx, CMN_fr F (fun i h1 h2 => by omega) (by omega) (by omega) (by omega) hC, OUT_fr F (by omega) hO⟩)⟩
set_option maxRecDepth 100000 in
theorem kR_wicket {l : Launch} (hfl : l.stackTraces = false) {D : va_G} {cy : Nat → ClassId} {f : Hf} {sz : Nat} {AD : Nat → Nat} {q q2 : Nat → Option Nat} {k : Nat} {r : Int32} (p0 p1 p2 p3 p4 : Int32) (hk : k ≤ 511) (hb_p2 : p2 = 0 ∨ p2 = 1) (hb_p4 : p4 = 0 ∨ p4 = 1) (h : MID AD cy q q2 k (mkS 3 0 p0 p1 p3 p2 0 p4 0) (BADw p0 p1 p3) 2 r f) : hMet l yX9_wicket cX9_wicket 6 (some .int) { frames := 6, cells := 0, slots := 0, locals := 158 } D (hTy cy) f sz [.ref (AD 125), .int p0, .int p1, .int p2, .int p3, .int p4] (hQi (fun b u => ∃ o, WJ AD cy q q2 (k + 1) r o u ∧ (r = 0 → o 0 = b.toInt64)) D f sz) hNo := by
  obtain ⟨hA, xa, xr, xk, hi, th, tl, w, nS, nC, cm, cs, lo, le, lfi, ge, SS, g, gp, gd, o, hMc, hRm, hRs, hJ, hb, hc⟩ := h
  obtain ⟨ps, pl, to, hm⟩ := id hMc
  have hw := JM_w hJ
  have hS : ¬ (BADw p0 p1 p3) → OKS (mkS 3 0 p0 p1 p3 p2 0 p4 0) := fun z => ok_wicket z hb_p2 hb_p4
  have hcd := cds_wicket (a := p0) (b := p1) (d := p3) hb_p2 hb_p4
  have hE := fun (ct cr code : Int32) => cmd_eq (g := g) (gp := gp) (gd := gd) hcd ct cr code w
  obtain ⟨c0, c1, c2, c3, c4, c5⟩ := id hcd
  have hpar : ¬ (BADw p0 p1 p3) → PAR _ _ _ := fun z => OKS_PAR (hS z)
  rw [c0, c1, c2] at hpar
  have hdok : ¬ (BADw p0 p1 p3) → RFG (mkS 3 0 p0 p1 p3 p2 0 p4 0) g ≤ 0 → DOK g _ _ _ := fun z y => (JM_step hJ (hS z) (by omega) ((JM_ref hJ (hS z)).trans ((RFG_le (hS z)).mp y))).2.2.1
  rw [c0, c1, c2, ← (hE 0 0 0).1] at hdok
  refine h_conI (h_mono (k_X9_wicket hfl (D := D) (un := w) p0 p1 p2 p3 p4 hm hRm.1 hRm.2.1 hRm.2.2 (by omega) (fun _ => JM_4 hJ) (fun n9 => hpar (fun z => n9 (wk_bad.mpr z))) (fun n9 y => hdok (fun z => n9 (wk_bad.mpr z)) y) hb_p2 hb_p4) (Nat.le_of_ble_eq_true rfl) (Nat.le_of_ble_eq_true rfl) (Nat.le_of_ble_eq_true rfl) (Nat.le_of_ble_eq_true rfl)) ?_ (fun _ _ h => h)
  intro b u hp
  obtain ⟨er, em, ep, ed, ev, ef⟩ := hp
  refine post_cmd (bad := BADw p0 p1 p3) (cR := 2) (S := mkS 3 0 p0 p1 p3 p2 0 p4 0) hA hk (by decide) hS hMc hRm hRs hJ hb hc ?_ ?_ ⟨_, _, _, em⟩ ep ed ev ef
  · intro z
    have hx : X9_wicket_x2 p0 p1 p3 = 1 := wk_bad.mpr z
    refine ⟨er.trans ?_, ?_, ?_, ?_, ?_, ?_, ?_⟩
    · unfold X9_wicket_x3; exact (if_pos hx)
    · unfold X9_wicket_x5; exact (if_pos hx).trans hx
    · unfold X9_wicket_x6; exact (if_pos hx)
    · unfold X9_wicket_x7; exact (if_pos hx)
    · unfold X9_wicket_g9; exact (if_pos hx)
    · unfold X9_wicket_g4; exact (if_pos hx)
    · unfold X9_wicket_g8; exact (if_pos hx)
  · intro z
    have hx : ¬ X9_wicket_x2 p0 p1 p3 = 1 := fun y => z (wk_bad.mp y)
    have hx0 : X9_wicket_x2 p0 p1 p3 = 0 := x0_wicket hx
    refine ⟨er.trans ?_, ?_, ?_, ?_, ?_, ?_, ?_⟩
    · unfold X9_wicket_x3; rw [if_neg hx]; exact (hE 0 0 0).2.1
    · unfold X9_wicket_x5; rw [if_neg hx, hx0]; exact (hE 0 0 2).2.2.2.1
    · unfold X9_wicket_x6; rw [if_neg hx]; exact (hE 0 xk 0).2.2.2.2.1
    · unfold X9_wicket_x7; rw [if_neg hx]; exact (hE 0 0 0).2.2.2.2.2.1
    · unfold X9_wicket_g9; rw [if_neg hx]; exact (hE 0 0 0).2.2.2.2.2.2.2
    · unfold X9_wicket_g4; rw [if_neg hx]; exact (hE 0 0 0).2.2.1
    · unfold X9_wicket_g8; rw [if_neg hx]; exact (hE 0 0 0).2.2.2.2.2.2.1
set_option maxRecDepth 100000 in
theorem kL_retire {l : Launch} (hfl : l.stackTraces = false) {D : va_G} {cy : Nat → ClassId} {f : Hf} {sz : Nat} {AD : Nat → Nat} {q q2 : Nat → Option Nat} {k : Nat} {th : Int32} {o : Nat → Int64} (p0 p1 : Int32) (hk : k ≤ 511) (hb_p0 : p0 = 0 ∨ p0 = 1) (hb_p1 : p1 = 0 ∨ p1 = 1) (h : WJ AD cy q q2 k th o f) : hMetH l yL_retire cL_retire 5 (some .int) [((0 : Nat), (10 : Nat), (13 : Nat), (21 : Nat))] { frames := 9, cells := 64, slots := 600, locals := 170 } D (hTy cy) f sz [.ref (AD 0), .int p0, .int p1, .ref (AD 138)] (hQi (fun r u => MID AD cy q q2 k (mkS 4 0 0 0 0 p0 0 0 p1) (False) 1 r u) D f sz) hNo := by
  obtain ⟨hA, xa, xr, xk, hi, tl, w, nS, nC, cm, cs, lo, le, lfi, ge, SS, g, gp, gd, hX, hMc, hC, hRm, hRs, hO, hJ, hb⟩ := h
  obtain ⟨hM, h1, h2, qs, sq, h3, h4⟩ := id hC
  have hw := JM_w hJ
  have hnC := JM_nC hJ
  have nb : ¬ (False) := id
  by_cases hR : rfR cm cs (mkS 4 0 0 0 0 p0 0 0 p1) = 0
  · have hPP : PP cm cs := RR_PP (by omega) (JL_RR (JM_live hJ hR))
    refine h_conH (w_retire hfl (gl := o) (X := hNo) hX (fun sz => h_mono (c_X8_retireA hfl p0 p1 (x := AD 0) (A := AM AD) (b := 0) (b2 := 54) (q := q) hX h1 h3 h2 (AM_ne hA) hM hA.2.1 (nMA hA (by omega)) (nMA hA (by omega)) hb_p0 hb_p1  (Or.inr hPP) hPP hR (by omega) (by omega) (room_N (by omega) (by omega))) (Nat.le_of_ble_eq_true rfl) (Nat.le_of_ble_eq_true rfl) (Nat.le_of_ble_eq_true rfl) (Nat.le_of_ble_eq_true rfl)) (fun _ _ h => False.elim h) (fun v9 u9 hp => by
      obtain ⟨w9, -, -, -, -, -, -, -, y5⟩ := hp
      exact OUT_fr (fr_m hA hC y5) (by unfold IM; omega) hO)) ?_
    intro r u hp
    rcases hp with ⟨rfl, v9, u9, ⟨w9, -, h9, e9, y1, y2, y3, y4, y5⟩, hu⟩ | ⟨rfl, hx⟩
    · obtain ⟨a1, a2, a3, a4, a5, a6⟩ := mA (S := mkS 4 0 0 0 0 p0 0 0 p1) hA hX hMc hC hRm hRs hO hw h4 h9 y1 y2 y3 y4 y5 hu
      rw [e9] at a6
      exact ⟨hA, xa, xr, xk, hi, th, tl, w, nS, nC, cm, cs, lo, le, lfi, ge, SS, g, gp, gd, o, a2, a4, a5, hJ, hb, Or.inr (Or.inr ⟨nb, hR, rfl, a1, a3, a6⟩)⟩
    · exact False.elim hx
  · refine h_conH (w_retire hfl (gl := o) (P := fun _ _ => False) hX (fun sz => h_mono (c_X8_retireR hfl p0 p1 (x := AD 0) (A := AM AD) (b := 0) (b2 := 54) (q := q) hX (AM_ne hA) hM hA.2.1 hb_p0 hb_p1  (JM_PX hJ (by omega)) hR) (Nat.le_of_ble_eq_true rfl) (Nat.le_of_ble_eq_true rfl) (Nat.le_of_ble_eq_true rfl) (Nat.le_of_ble_eq_true rfl)) (fun E u hx => hx.1) (fun v w h => h.elim)) ?_
    intro r u hp
    rcases hp with ⟨rfl, v9, w9, hf, -⟩ | ⟨rfl, -, hx, -, hfr⟩
    · exact hf.elim
    · have F := fr_x hA hX hfr
      exact ⟨hA, xa, xr, xk, hi, th, tl, w, nS, nC, cm, cs, lo, le, lfi, ge, SS, g, gp, gd, o, MC_fr F (by omega) hMc, RMN_fr F (by omega) (by omega) (by omega) hRm, RST_fr F (fun i h => by omega) (Nat.le_refl _) hRs, hJ, hb, Or.inr (Or.inl ⟨nb, hR, rfl, hx, CMN_fr F (fun i h1 h2 => by omega) (by omega) (by omega) (by omega) hC, OUT_fr F (by omega) hO⟩)⟩
set_option maxRecDepth 100000 in
theorem kR_retire {l : Launch} (hfl : l.stackTraces = false) {D : va_G} {cy : Nat → ClassId} {f : Hf} {sz : Nat} {AD : Nat → Nat} {q q2 : Nat → Option Nat} {k : Nat} {r : Int32} (p0 p1 : Int32) (hk : k ≤ 511) (hb_p0 : p0 = 0 ∨ p0 = 1) (hb_p1 : p1 = 0 ∨ p1 = 1) (h : MID AD cy q q2 k (mkS 4 0 0 0 0 p0 0 0 p1) (False) 1 r f) : hMet l yX9_retire cX9_retire 3 (some .int) { frames := 6, cells := 0, slots := 0, locals := 158 } D (hTy cy) f sz [.ref (AD 125), .int p0, .int p1] (hQi (fun b u => ∃ o, WJ AD cy q q2 (k + 1) r o u ∧ (r = 0 → o 0 = b.toInt64)) D f sz) hNo := by
  obtain ⟨hA, xa, xr, xk, hi, th, tl, w, nS, nC, cm, cs, lo, le, lfi, ge, SS, g, gp, gd, o, hMc, hRm, hRs, hJ, hb, hc⟩ := h
  obtain ⟨ps, pl, to, hm⟩ := id hMc
  have hw := JM_w hJ
  have hS : ¬ (False) → OKS (mkS 4 0 0 0 0 p0 0 0 p1) := fun z => ok_retire hb_p0 hb_p1
  have hcd := cds_retire hb_p0 hb_p1
  have hE := fun (ct cr code : Int32) => cmd_eq (g := g) (gp := gp) (gd := gd) hcd ct cr code w
  obtain ⟨c0, c1, c2, c3, c4, c5⟩ := id hcd
  have hpar : ¬ (False) → PAR _ _ _ := fun z => OKS_PAR (hS z)
  rw [c0, c1, c2] at hpar
  have hdok : ¬ (False) → RFG (mkS 4 0 0 0 0 p0 0 0 p1) g ≤ 0 → DOK g _ _ _ := fun z y => (JM_step hJ (hS z) (by omega) ((JM_ref hJ (hS z)).trans ((RFG_le (hS z)).mp y))).2.2.1
  rw [c0, c1, c2, ← (hE 0 0 0).1] at hdok
  refine h_conI (h_mono (k_X9_retire hfl (D := D) (un := w) p0 p1 hm hRm.1 hRm.2.1 hRm.2.2 (by omega) (JM_4 hJ) (hpar id) (fun y => hdok id y) hb_p0 hb_p1) (Nat.le_of_ble_eq_true rfl) (Nat.le_of_ble_eq_true rfl) (Nat.le_of_ble_eq_true rfl) (Nat.le_of_ble_eq_true rfl)) ?_ (fun _ _ h => h)
  intro b u hp
  obtain ⟨er, em, ep, ed, ev, ef⟩ := hp
  refine post_cmd (bad := False) (cR := 1) (S := mkS 4 0 0 0 0 p0 0 0 p1) hA hk (by decide) hS hMc hRm hRs hJ hb hc ?_ ?_ ⟨_, _, _, em⟩ ep ed ev ef
  · intro z; exact z.elim
  · intro z
    exact ⟨er.trans (hE 0 0 0).2.1, (hE 0 0 1).2.2.2.1, (hE 0 xk 0).2.2.2.2.1, (hE 0 0 0).2.2.2.2.2.1, (hE 0 0 0).2.2.2.2.2.2.2, (hE 0 0 0).2.2.1, (hE 0 0 0).2.2.2.2.2.2.1⟩
set_option maxRecDepth 100000 in
theorem kL_choose {l : Launch} (hfl : l.stackTraces = false) {D : va_G} {cy : Nat → ClassId} {f : Hf} {sz : Nat} {AD : Nat → Nat} {q q2 : Nat → Option Nat} {k : Nat} {th : Int32} {o : Nat → Int64} (p0 : Int32) (hk : k ≤ 511) (h : WJ AD cy q q2 k th o f) : hMetH l yL_choose cL_choose 4 (some .int) [((0 : Nat), (9 : Nat), (12 : Nat), (19 : Nat)), ((0 : Nat), (9 : Nat), (15 : Nat), (21 : Nat))] { frames := 9, cells := 64, slots := 600, locals := 170 } D (hTy cy) f sz [.ref (AD 0), .int p0, .ref (AD 138)] (hQi (fun r u => MID AD cy q q2 k (mkS 5 p0 0 0 0 0 0 0 0) (X8_isWithin_x1 p0 0 10 = 0) 2 r u) D f sz) hNo := by
  obtain ⟨hA, xa, xr, xk, hi, tl, w, nS, nC, cm, cs, lo, le, lfi, ge, SS, g, gp, gd, hX, hMc, hC, hRm, hRs, hO, hJ, hb⟩ := h
  obtain ⟨hM, h1, h2, qs, sq, h3, h4⟩ := id hC
  have hw := JM_w hJ
  have hnC := JM_nC hJ
  by_cases v0 : X8_isWithin_x1 p0 0 10 = 0
  · refine h_conH (w_choose hfl (gl := o) (P := fun _ _ => False) (X := fun E u => E = "java/lang/IndexOutOfBoundsException" ∧ u = f) hX (fun sz => h_mono (c_X8_chooseB1 hfl p0 (x := AD 0) (A := AM AD) (b := 0) (b2 := 54) hX  v0) (Nat.le_of_ble_eq_true rfl) (Nat.le_of_ble_eq_true rfl) (Nat.le_of_ble_eq_true rfl) (Nat.le_of_ble_eq_true rfl)) (fun E u hx => Or.inl hx.1) (fun v w h => h.elim)) ?_
    intro r u hp
    rcases hp with ⟨rfl, v9, w9, hf, -⟩ | ⟨rfl, -, rfl⟩ | ⟨rfl, hx, -⟩
    · exact hf.elim
    · exact ⟨hA, xa, xr, xk, hi, th, tl, w, nS, nC, cm, cs, lo, le, lfi, ge, SS, g, gp, gd, o, hMc, hRm, hRs, hJ, hb, Or.inl ⟨v0, rfl, hX, hC, hO⟩⟩
    · exact absurd hx (by decide)
  · have nb : ¬ (X8_isWithin_x1 p0 0 10 = 0) := v0
    by_cases hR : rfR cm cs (mkS 5 p0 0 0 0 0 0 0 0) = 0
    · have hPP : PP cm cs := RR_PP (by omega) (JL_RR (JM_live hJ hR))
      refine h_conH (w_choose hfl (gl := o) (X := hNo) hX (fun sz => h_mono (c_X8_chooseA hfl p0 (x := AD 0) (A := AM AD) (b := 0) (b2 := 54) (q := q) hX h1 h3 h2 (AM_ne hA) hM hA.2.1 (nMA hA (by omega)) (nMA hA (by omega))  v0 (Or.inr hPP) hPP hR (by omega) (by omega) (room_N (by omega) (by omega))) (Nat.le_of_ble_eq_true rfl) (Nat.le_of_ble_eq_true rfl) (Nat.le_of_ble_eq_true rfl) (Nat.le_of_ble_eq_true rfl)) (fun _ _ h => False.elim h) (fun v9 u9 hp => by
        obtain ⟨w9, -, -, -, -, -, -, -, y5⟩ := hp
        exact OUT_fr (fr_m hA hC y5) (by unfold IM; omega) hO)) ?_
      intro r u hp
      rcases hp with ⟨rfl, v9, u9, ⟨w9, -, h9, e9, y1, y2, y3, y4, y5⟩, hu⟩ | ⟨rfl, hx⟩ | ⟨rfl, hx⟩
      · obtain ⟨a1, a2, a3, a4, a5, a6⟩ := mA (S := mkS 5 p0 0 0 0 0 0 0 0) hA hX hMc hC hRm hRs hO hw h4 h9 y1 y2 y3 y4 y5 hu
        rw [e9] at a6
        exact ⟨hA, xa, xr, xk, hi, th, tl, w, nS, nC, cm, cs, lo, le, lfi, ge, SS, g, gp, gd, o, a2, a4, a5, hJ, hb, Or.inr (Or.inr ⟨nb, hR, rfl, a1, a3, a6⟩)⟩
      · exact False.elim hx
      · exact False.elim hx
    · refine h_conH (w_choose hfl (gl := o) (P := fun _ _ => False) hX (fun sz => h_mono (c_X8_chooseR hfl p0 (x := AD 0) (A := AM AD) (b := 0) (b2 := 54) (q := q) hX (AM_ne hA) hM hA.2.1  v0 (JM_PX hJ (by omega)) hR) (Nat.le_of_ble_eq_true rfl) (Nat.le_of_ble_eq_true rfl) (Nat.le_of_ble_eq_true rfl) (Nat.le_of_ble_eq_true rfl)) (fun E u hx => Or.inr hx.1) (fun v w h => h.elim)) ?_
      intro r u hp
      rcases hp with ⟨rfl, v9, w9, hf, -⟩ | ⟨rfl, hx, -⟩ | ⟨rfl, -, hx, -, hfr⟩
      · exact hf.elim
      · exact absurd hx (by decide)
      · have F := fr_x hA hX hfr
        exact ⟨hA, xa, xr, xk, hi, th, tl, w, nS, nC, cm, cs, lo, le, lfi, ge, SS, g, gp, gd, o, MC_fr F (by omega) hMc, RMN_fr F (by omega) (by omega) (by omega) hRm, RST_fr F (fun i h => by omega) (Nat.le_refl _) hRs, hJ, hb, Or.inr (Or.inl ⟨nb, hR, rfl, hx, CMN_fr F (fun i h1 h2 => by omega) (by omega) (by omega) (by omega) hC, OUT_fr F (by omega) hO⟩)⟩
set_option maxRecDepth 100000 in
theorem kR_choose {l : Launch} (hfl : l.stackTraces = false) {D : va_G} {cy : Nat → ClassId} {f : Hf} {sz : Nat} {AD : Nat → Nat} {q q2 : Nat → Option Nat} {k : Nat} {r : Int32} (p0 : Int32) (hk : k ≤ 511) (h : MID AD cy q q2 k (mkS 5 p0 0 0 0 0 0 0 0) (X8_isWithin_x1 p0 0 10 = 0) 2 r f) : hMet l yX9_choose cX9_choose 2 (some .int) { frames := 6, cells := 0, slots := 0, locals := 158 } D (hTy cy) f sz [.ref (AD 125), .int p0] (hQi (fun b u => ∃ o, WJ AD cy q q2 (k + 1) r o u ∧ (r = 0 → o 0 = b.toInt64)) D f sz) hNo := by
  obtain ⟨hA, xa, xr, xk, hi, th, tl, w, nS, nC, cm, cs, lo, le, lfi, ge, SS, g, gp, gd, o, hMc, hRm, hRs, hJ, hb, hc⟩ := h
  obtain ⟨ps, pl, to, hm⟩ := id hMc
  have hw := JM_w hJ
  have hS : ¬ (X8_isWithin_x1 p0 0 10 = 0) → OKS (mkS 5 p0 0 0 0 0 0 0 0) := fun z => ok_choose z
  have hcd := cds_choose (p := p0)
  have hE := fun (ct cr code : Int32) => cmd_eq (g := g) (gp := gp) (gd := gd) hcd ct cr code w
  obtain ⟨c0, c1, c2, c3, c4, c5⟩ := id hcd
  have hpar : ¬ (X8_isWithin_x1 p0 0 10 = 0) → PAR _ _ _ := fun z => OKS_PAR (hS z)
  rw [c0, c1, c2] at hpar
  have hdok : ¬ (X8_isWithin_x1 p0 0 10 = 0) → RFG (mkS 5 p0 0 0 0 0 0 0 0) g ≤ 0 → DOK g _ _ _ := fun z y => (JM_step hJ (hS z) (by omega) ((JM_ref hJ (hS z)).trans ((RFG_le (hS z)).mp y))).2.2.1
  rw [c0, c1, c2, ← (hE 0 0 0).1] at hdok
  refine h_conI (h_mono (k_X9_choose hfl (D := D) (un := w) p0 hm hRm.1 hRm.2.1 hRm.2.2 (by omega) (fun _ => JM_4 hJ) (fun n9 => hpar (fun z => n9 (if_pos z))) (fun n9 y => hdok (fun z => n9 (if_pos z)) y) ) (Nat.le_of_ble_eq_true rfl) (Nat.le_of_ble_eq_true rfl) (Nat.le_of_ble_eq_true rfl) (Nat.le_of_ble_eq_true rfl)) ?_ (fun _ _ h => h)
  intro b u hp
  obtain ⟨er, em, ep, ed, ev, ef⟩ := hp
  refine post_cmd (bad := X8_isWithin_x1 p0 0 10 = 0) (cR := 2) (S := mkS 5 p0 0 0 0 0 0 0 0) hA hk (by decide) hS hMc hRm hRs hJ hb hc ?_ ?_ ⟨_, _, _, em⟩ ep ed ev ef
  · intro z
    have hx : X9_choose_x0 p0 = 1 := if_pos z
    refine ⟨er.trans ?_, ?_, ?_, ?_, ?_, ?_, ?_⟩
    · unfold X9_choose_x1; exact (if_pos hx)
    · unfold X9_choose_x3; exact (if_pos hx).trans hx
    · unfold X9_choose_x4; exact (if_pos hx)
    · unfold X9_choose_x5; exact (if_pos hx)
    · unfold X9_choose_g7; exact (if_pos hx)
    · unfold X9_choose_g2; exact (if_pos hx)
    · unfold X9_choose_g6; exact (if_pos hx)
  · intro z
    have hx : ¬ X9_choose_x0 p0 = 1 := fun y => by rw [show X9_choose_x0 p0 = 0 from if_neg z] at y; exact absurd y (by decide)
    have hx0 : X9_choose_x0 p0 = 0 := if_neg z
    refine ⟨er.trans ?_, ?_, ?_, ?_, ?_, ?_, ?_⟩
    · unfold X9_choose_x1; rw [if_neg hx]; exact (hE 0 0 0).2.1
    · unfold X9_choose_x3; rw [if_neg hx, hx0]; exact (hE 0 0 2).2.2.2.1
    · unfold X9_choose_x4; rw [if_neg hx]; exact (hE 0 xk 0).2.2.2.2.1
    · unfold X9_choose_x5; rw [if_neg hx]; exact (hE 0 0 0).2.2.2.2.2.1
    · unfold X9_choose_g7; rw [if_neg hx]; exact (hE 0 0 0).2.2.2.2.2.2.2
    · unfold X9_choose_g2; rw [if_neg hx]; exact (hE 0 0 0).2.2.1
    · unfold X9_choose_g6; rw [if_neg hx]; exact (hE 0 0 0).2.2.2.2.2.2.1
set_option maxRecDepth 100000 in
theorem kL_declare {l : Launch} (hfl : l.stackTraces = false) {D : va_G} {cy : Nat → ClassId} {f : Hf} {sz : Nat} {AD : Nat → Nat} {q q2 : Nat → Option Nat} {k : Nat} {th : Int32} {o : Nat → Int64} (hk : k ≤ 511) (h : WJ AD cy q q2 k th o f) : hMetH l yL_declare cL_declare 3 (some .int) [((0 : Nat), (8 : Nat), (11 : Nat), (21 : Nat))] { frames := 9, cells := 64, slots := 600, locals := 170 } D (hTy cy) f sz [.ref (AD 0), .ref (AD 138)] (hQi (fun r u => MID AD cy q q2 k (mkS 6 0 0 0 0 0 0 0 0) (False) 1 r u) D f sz) hNo := by
  obtain ⟨hA, xa, xr, xk, hi, tl, w, nS, nC, cm, cs, lo, le, lfi, ge, SS, g, gp, gd, hX, hMc, hC, hRm, hRs, hO, hJ, hb⟩ := h
  obtain ⟨hM, h1, h2, qs, sq, h3, h4⟩ := id hC
  have hw := JM_w hJ
  have hnC := JM_nC hJ
  have nb : ¬ (False) := id
  by_cases hR : rfR cm cs (mkS 6 0 0 0 0 0 0 0 0) = 0
  · have hPP : PP cm cs := RR_PP (by omega) (JL_RR (JM_live hJ hR))
    refine h_conH (w_declare hfl (gl := o) (X := hNo) hX (fun sz => h_mono (c_X8_declareA hfl  (x := AD 0) (A := AM AD) (b := 0) (b2 := 54) (q := q) hX h1 h3 h2 (AM_ne hA) hM hA.2.1 (nMA hA (by omega)) (nMA hA (by omega))   (Or.inr hPP) hPP hR (by omega) (by omega) (room_N (by omega) (by omega))) (Nat.le_of_ble_eq_true rfl) (Nat.le_of_ble_eq_true rfl) (Nat.le_of_ble_eq_true rfl) (Nat.le_of_ble_eq_true rfl)) (fun _ _ h => False.elim h) (fun v9 u9 hp => by
      obtain ⟨w9, -, -, -, -, -, -, -, y5⟩ := hp
      exact OUT_fr (fr_m hA hC y5) (by unfold IM; omega) hO)) ?_
    intro r u hp
    rcases hp with ⟨rfl, v9, u9, ⟨w9, -, h9, e9, y1, y2, y3, y4, y5⟩, hu⟩ | ⟨rfl, hx⟩
    · obtain ⟨a1, a2, a3, a4, a5, a6⟩ := mA (S := mkS 6 0 0 0 0 0 0 0 0) hA hX hMc hC hRm hRs hO hw h4 h9 y1 y2 y3 y4 y5 hu
      rw [e9] at a6
      exact ⟨hA, xa, xr, xk, hi, th, tl, w, nS, nC, cm, cs, lo, le, lfi, ge, SS, g, gp, gd, o, a2, a4, a5, hJ, hb, Or.inr (Or.inr ⟨nb, hR, rfl, a1, a3, a6⟩)⟩
    · exact False.elim hx
  · refine h_conH (w_declare hfl (gl := o) (P := fun _ _ => False) hX (fun sz => h_mono (c_X8_declareR hfl  (x := AD 0) (A := AM AD) (b := 0) (b2 := 54) (q := q) hX (AM_ne hA) hM hA.2.1   (JM_PX hJ (by omega)) hR) (Nat.le_of_ble_eq_true rfl) (Nat.le_of_ble_eq_true rfl) (Nat.le_of_ble_eq_true rfl) (Nat.le_of_ble_eq_true rfl)) (fun E u hx => hx.1) (fun v w h => h.elim)) ?_
    intro r u hp
    rcases hp with ⟨rfl, v9, w9, hf, -⟩ | ⟨rfl, -, hx, -, hfr⟩
    · exact hf.elim
    · have F := fr_x hA hX hfr
      exact ⟨hA, xa, xr, xk, hi, th, tl, w, nS, nC, cm, cs, lo, le, lfi, ge, SS, g, gp, gd, o, MC_fr F (by omega) hMc, RMN_fr F (by omega) (by omega) (by omega) hRm, RST_fr F (fun i h => by omega) (Nat.le_refl _) hRs, hJ, hb, Or.inr (Or.inl ⟨nb, hR, rfl, hx, CMN_fr F (fun i h1 h2 => by omega) (by omega) (by omega) (by omega) hC, OUT_fr F (by omega) hO⟩)⟩
set_option maxRecDepth 100000 in
theorem kR_declare {l : Launch} (hfl : l.stackTraces = false) {D : va_G} {cy : Nat → ClassId} {f : Hf} {sz : Nat} {AD : Nat → Nat} {q q2 : Nat → Option Nat} {k : Nat} {r : Int32} (hk : k ≤ 511) (h : MID AD cy q q2 k (mkS 6 0 0 0 0 0 0 0 0) (False) 1 r f) : hMet l yX9_declare cX9_declare 1 (some .int) { frames := 6, cells := 0, slots := 0, locals := 158 } D (hTy cy) f sz [.ref (AD 125)] (hQi (fun b u => ∃ o, WJ AD cy q q2 (k + 1) r o u ∧ (r = 0 → o 0 = b.toInt64)) D f sz) hNo := by
  obtain ⟨hA, xa, xr, xk, hi, th, tl, w, nS, nC, cm, cs, lo, le, lfi, ge, SS, g, gp, gd, o, hMc, hRm, hRs, hJ, hb, hc⟩ := h
  obtain ⟨ps, pl, to, hm⟩ := id hMc
  have hw := JM_w hJ
  have hS : ¬ (False) → OKS (mkS 6 0 0 0 0 0 0 0 0) := fun z => ok_declare
  have hcd := cds_declare
  have hE := fun (ct cr code : Int32) => cmd_eq (g := g) (gp := gp) (gd := gd) hcd ct cr code w
  obtain ⟨c0, c1, c2, c3, c4, c5⟩ := id hcd
  have hpar : ¬ (False) → PAR _ _ _ := fun z => OKS_PAR (hS z)
  rw [c0, c1, c2] at hpar
  have hdok : ¬ (False) → RFG (mkS 6 0 0 0 0 0 0 0 0) g ≤ 0 → DOK g _ _ _ := fun z y => (JM_step hJ (hS z) (by omega) ((JM_ref hJ (hS z)).trans ((RFG_le (hS z)).mp y))).2.2.1
  rw [c0, c1, c2, ← (hE 0 0 0).1] at hdok
  refine h_conI (h_mono (k_X9_declare hfl (D := D) (un := w)  hm hRm.1 hRm.2.1 hRm.2.2 (by omega) (JM_4 hJ) (hpar id) (fun y => hdok id y) ) (Nat.le_of_ble_eq_true rfl) (Nat.le_of_ble_eq_true rfl) (Nat.le_of_ble_eq_true rfl) (Nat.le_of_ble_eq_true rfl)) ?_ (fun _ _ h => h)
  intro b u hp
  obtain ⟨er, em, ep, ed, ev, ef⟩ := hp
  refine post_cmd (bad := False) (cR := 1) (S := mkS 6 0 0 0 0 0 0 0 0) hA hk (by decide) hS hMc hRm hRs hJ hb hc ?_ ?_ ⟨_, _, _, em⟩ ep ed ev ef
  · intro z; exact z.elim
  · intro z
    exact ⟨er.trans (hE 0 0 0).2.1, (hE 0 0 1).2.2.2.1, (hE 0 xk 0).2.2.2.2.1, (hE 0 0 0).2.2.2.2.2.1, (hE 0 0 0).2.2.2.2.2.2.2, (hE 0 0 0).2.2.1, (hE 0 0 0).2.2.2.2.2.2.1⟩
set_option maxRecDepth 100000 in
theorem kL_loseOvers {l : Launch} (hfl : l.stackTraces = false) {D : va_G} {cy : Nat → ClassId} {f : Hf} {sz : Nat} {AD : Nat → Nat} {q q2 : Nat → Option Nat} {k : Nat} {th : Int32} {o : Nat → Int64} (p0 : Int32) (hk : k ≤ 511) (h : WJ AD cy q q2 k th o f) : hMetH l yL_loseOvers cL_loseOvers 4 (some .int) [((0 : Nat), (9 : Nat), (12 : Nat), (13 : Nat)), ((0 : Nat), (9 : Nat), (15 : Nat), (21 : Nat))] { frames := 9, cells := 64, slots := 600, locals := 170 } D (hTy cy) f sz [.ref (AD 0), .int p0, .ref (AD 138)] (hQi (fun r u => MID AD cy q q2 k (mkS 7 p0 0 0 0 0 0 0 0) (X8_isWithin_x1 p0 1 19 = 0) 2 r u) D f sz) hNo := by
  obtain ⟨hA, xa, xr, xk, hi, tl, w, nS, nC, cm, cs, lo, le, lfi, ge, SS, g, gp, gd, hX, hMc, hC, hRm, hRs, hO, hJ, hb⟩ := h
  obtain ⟨hM, h1, h2, qs, sq, h3, h4⟩ := id hC
  have hw := JM_w hJ
  have hnC := JM_nC hJ
  by_cases v0 : X8_isWithin_x1 p0 1 19 = 0
  · refine h_conH (w_loseOvers hfl (gl := o) (P := fun _ _ => False) (X := fun E u => E = "java/lang/IllegalArgumentException" ∧ u = f) hX (fun sz => h_mono (c_X8_loseOversB1 hfl p0 (x := AD 0) (A := AM AD) (b := 0) (b2 := 54) hX  v0) (Nat.le_of_ble_eq_true rfl) (Nat.le_of_ble_eq_true rfl) (Nat.le_of_ble_eq_true rfl) (Nat.le_of_ble_eq_true rfl)) (fun E u hx => Or.inl hx.1) (fun v w h => h.elim)) ?_
    intro r u hp
    rcases hp with ⟨rfl, v9, w9, hf, -⟩ | ⟨rfl, -, rfl⟩ | ⟨rfl, hx, -⟩
    · exact hf.elim
    · exact ⟨hA, xa, xr, xk, hi, th, tl, w, nS, nC, cm, cs, lo, le, lfi, ge, SS, g, gp, gd, o, hMc, hRm, hRs, hJ, hb, Or.inl ⟨v0, rfl, hX, hC, hO⟩⟩
    · exact absurd hx (by decide)
  · have nb : ¬ (X8_isWithin_x1 p0 1 19 = 0) := v0
    by_cases hR : rfR cm cs (mkS 7 p0 0 0 0 0 0 0 0) = 0
    · have hPP : PP cm cs := RR_PP (by omega) (JL_RR (JM_live hJ hR))
      refine h_conH (w_loseOvers hfl (gl := o) (X := hNo) hX (fun sz => h_mono (c_X8_loseOversA hfl p0 (x := AD 0) (A := AM AD) (b := 0) (b2 := 54) (q := q) hX h1 h3 h2 (AM_ne hA) hM hA.2.1 (nMA hA (by omega)) (nMA hA (by omega))  v0 (Or.inr hPP) hPP hR (by omega) (by omega) (room_N (by omega) (by omega))) (Nat.le_of_ble_eq_true rfl) (Nat.le_of_ble_eq_true rfl) (Nat.le_of_ble_eq_true rfl) (Nat.le_of_ble_eq_true rfl)) (fun _ _ h => False.elim h) (fun v9 u9 hp => by
        obtain ⟨w9, -, -, -, -, -, -, -, y5⟩ := hp
        exact OUT_fr (fr_m hA hC y5) (by unfold IM; omega) hO)) ?_
      intro r u hp
      rcases hp with ⟨rfl, v9, u9, ⟨w9, -, h9, e9, y1, y2, y3, y4, y5⟩, hu⟩ | ⟨rfl, hx⟩ | ⟨rfl, hx⟩
      · obtain ⟨a1, a2, a3, a4, a5, a6⟩ := mA (S := mkS 7 p0 0 0 0 0 0 0 0) hA hX hMc hC hRm hRs hO hw h4 h9 y1 y2 y3 y4 y5 hu
        rw [e9] at a6
        exact ⟨hA, xa, xr, xk, hi, th, tl, w, nS, nC, cm, cs, lo, le, lfi, ge, SS, g, gp, gd, o, a2, a4, a5, hJ, hb, Or.inr (Or.inr ⟨nb, hR, rfl, a1, a3, a6⟩)⟩
      · exact False.elim hx
      · exact False.elim hx
    · refine h_conH (w_loseOvers hfl (gl := o) (P := fun _ _ => False) hX (fun sz => h_mono (c_X8_loseOversR hfl p0 (x := AD 0) (A := AM AD) (b := 0) (b2 := 54) (q := q) hX (AM_ne hA) hM hA.2.1  v0 (JM_PX hJ (by omega)) hR) (Nat.le_of_ble_eq_true rfl) (Nat.le_of_ble_eq_true rfl) (Nat.le_of_ble_eq_true rfl) (Nat.le_of_ble_eq_true rfl)) (fun E u hx => Or.inr hx.1) (fun v w h => h.elim)) ?_
      intro r u hp
      rcases hp with ⟨rfl, v9, w9, hf, -⟩ | ⟨rfl, hx, -⟩ | ⟨rfl, -, hx, -, hfr⟩
      · exact hf.elim
      · exact absurd hx (by decide)
      · have F := fr_x hA hX hfr
        exact ⟨hA, xa, xr, xk, hi, th, tl, w, nS, nC, cm, cs, lo, le, lfi, ge, SS, g, gp, gd, o, MC_fr F (by omega) hMc, RMN_fr F (by omega) (by omega) (by omega) hRm, RST_fr F (fun i h => by omega) (Nat.le_refl _) hRs, hJ, hb, Or.inr (Or.inl ⟨nb, hR, rfl, hx, CMN_fr F (fun i h1 h2 => by omega) (by omega) (by omega) (by omega) hC, OUT_fr F (by omega) hO⟩)⟩
set_option maxRecDepth 100000 in
theorem kR_loseOvers {l : Launch} (hfl : l.stackTraces = false) {D : va_G} {cy : Nat → ClassId} {f : Hf} {sz : Nat} {AD : Nat → Nat} {q q2 : Nat → Option Nat} {k : Nat} {r : Int32} (p0 : Int32) (hk : k ≤ 511) (h : MID AD cy q q2 k (mkS 7 p0 0 0 0 0 0 0 0) (X8_isWithin_x1 p0 1 19 = 0) 2 r f) : hMet l yX9_loseOvers cX9_loseOvers 2 (some .int) { frames := 6, cells := 0, slots := 0, locals := 158 } D (hTy cy) f sz [.ref (AD 125), .int p0] (hQi (fun b u => ∃ o, WJ AD cy q q2 (k + 1) r o u ∧ (r = 0 → o 0 = b.toInt64)) D f sz) hNo := by
  obtain ⟨hA, xa, xr, xk, hi, th, tl, w, nS, nC, cm, cs, lo, le, lfi, ge, SS, g, gp, gd, o, hMc, hRm, hRs, hJ, hb, hc⟩ := h
  obtain ⟨ps, pl, to, hm⟩ := id hMc
  have hw := JM_w hJ
  have hS : ¬ (X8_isWithin_x1 p0 1 19 = 0) → OKS (mkS 7 p0 0 0 0 0 0 0 0) := fun z => ok_loseOvers z
  have hcd := cds_loseOvers (p := p0)
  have hE := fun (ct cr code : Int32) => cmd_eq (g := g) (gp := gp) (gd := gd) hcd ct cr code w
  obtain ⟨c0, c1, c2, c3, c4, c5⟩ := id hcd
  have hpar : ¬ (X8_isWithin_x1 p0 1 19 = 0) → PAR _ _ _ := fun z => OKS_PAR (hS z)
  rw [c0, c1, c2] at hpar
  have hdok : ¬ (X8_isWithin_x1 p0 1 19 = 0) → RFG (mkS 7 p0 0 0 0 0 0 0 0) g ≤ 0 → DOK g _ _ _ := fun z y => (JM_step hJ (hS z) (by omega) ((JM_ref hJ (hS z)).trans ((RFG_le (hS z)).mp y))).2.2.1
  rw [c0, c1, c2, ← (hE 0 0 0).1] at hdok
  refine h_conI (h_mono (k_X9_loseOvers hfl (D := D) (un := w) p0 hm hRm.1 hRm.2.1 hRm.2.2 (by omega) (fun _ => JM_4 hJ) (fun n9 => hpar (fun z => n9 (if_pos z))) (fun n9 y => hdok (fun z => n9 (if_pos z)) y) ) (Nat.le_of_ble_eq_true rfl) (Nat.le_of_ble_eq_true rfl) (Nat.le_of_ble_eq_true rfl) (Nat.le_of_ble_eq_true rfl)) ?_ (fun _ _ h => h)
  intro b u hp
  obtain ⟨er, em, ep, ed, ev, ef⟩ := hp
  refine post_cmd (bad := X8_isWithin_x1 p0 1 19 = 0) (cR := 2) (S := mkS 7 p0 0 0 0 0 0 0 0) hA hk (by decide) hS hMc hRm hRs hJ hb hc ?_ ?_ ⟨_, _, _, em⟩ ep ed ev ef
  · intro z
    have hx : X9_loseOvers_x0 p0 = 1 := if_pos z
    refine ⟨er.trans ?_, ?_, ?_, ?_, ?_, ?_, ?_⟩
    · unfold X9_loseOvers_x1; exact (if_pos hx)
    · unfold X9_loseOvers_x3; exact (if_pos hx).trans hx
    · unfold X9_loseOvers_x4; exact (if_pos hx)
    · unfold X9_loseOvers_x5; exact (if_pos hx)
    · unfold X9_loseOvers_g7; exact (if_pos hx)
    · unfold X9_loseOvers_g2; exact (if_pos hx)
    · unfold X9_loseOvers_g6; exact (if_pos hx)
  · intro z
    have hx : ¬ X9_loseOvers_x0 p0 = 1 := fun y => by rw [show X9_loseOvers_x0 p0 = 0 from if_neg z] at y; exact absurd y (by decide)
    have hx0 : X9_loseOvers_x0 p0 = 0 := if_neg z
    refine ⟨er.trans ?_, ?_, ?_, ?_, ?_, ?_, ?_⟩
    · unfold X9_loseOvers_x1; rw [if_neg hx]; exact (hE 0 0 0).2.1
    · unfold X9_loseOvers_x3; rw [if_neg hx, hx0]; exact (hE 0 0 2).2.2.2.1
    · unfold X9_loseOvers_x4; rw [if_neg hx]; exact (hE 0 xk 0).2.2.2.2.1
    · unfold X9_loseOvers_x5; rw [if_neg hx]; exact (hE 0 0 0).2.2.2.2.2.1
    · unfold X9_loseOvers_g7; rw [if_neg hx]; exact (hE 0 0 0).2.2.2.2.2.2.2
    · unfold X9_loseOvers_g2; rw [if_neg hx]; exact (hE 0 0 0).2.2.1
    · unfold X9_loseOvers_g6; rw [if_neg hx]; exact (hE 0 0 0).2.2.2.2.2.2.1
