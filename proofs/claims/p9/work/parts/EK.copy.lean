set_option maxRecDepth 100000 in
theorem kL_copyOvers {l : Launch} (hfl : l.stackTraces = false) {D : va_G} {cy : Nat → ClassId} {f : Hf} {sz : Nat} {AD : Nat → Nat} {q q2 : Nat → Option Nat} {k : Nat} {th : Int32} {o : Nat → Int64} (p0 p1 : Int32) (h : WJ AD cy q q2 k th o f) : hMetH l yL_copyOvers cL_copyOvers 5 (some .int) [((0 : Nat), (17 : Nat), (20 : Nat), (19 : Nat)), ((0 : Nat), (17 : Nat), (24 : Nat), (57 : Nat)), ((0 : Nat), (17 : Nat), (28 : Nat), (49 : Nat)), ((0 : Nat), (17 : Nat), (32 : Nat), (13 : Nat))] { frames := 9, cells := 64, slots := 600, locals := 170 } D (hTy cy) f sz [.ref (AD 0), .int p0, .int p1, .ref (AD 138)] (hQi (fun r u => MIDC AD cy q q2 k p0 p1 r u) D f sz) hNo := by
  obtain ⟨hA, xa, xr, xk, hi, tl, w, nS, nC, cm, cs, lo, le, lfi, ge, SS, g, gp, gd, hX, hMc, hC, hRm, hRs, hO, hJ, hb⟩ := h
  obtain ⟨hM, h1, h2, qs, sq, h3, h4⟩ := id hC
  obtain ⟨s1, s2, ⟨st, ex1, ln, st', ex1', ln', gz, gy, gs, gm, gw, gf, w1, w2, w3, w4, w5⟩, s3, s4⟩ := hRs
  by_cases v0 : X8_isWithin_x1 p0 0 1 = 0
  · have hn : X9_copyOversE_n6 gs gm p0 p1 = 1 := if_pos v0
    refine h_conH (w_copyOvers hfl (gl := o) (P := fun _ _ => False) (X := fun E u => E = "java/lang/IndexOutOfBoundsException" ∧ u = f) hX (fun sz => h_mono (c_X8_copyOversB hfl p0 p1 (x := AD 0) (A := AM AD) (b := 0) (b2 := 54) hX v0) (Nat.le_of_ble_eq_true rfl) (Nat.le_of_ble_eq_true rfl) (Nat.le_of_ble_eq_true rfl) (Nat.le_of_ble_eq_true rfl)) (fun E u hx => Or.inl (hx.1)) (fun v w h => h.elim)) ?_
    intro r u hp
    rcases hp with ⟨rfl, v9, w9, hf, -⟩ | ⟨rfl, -, rfl⟩ | ⟨rfl, hx, -⟩ | ⟨rfl, hx, -⟩ | ⟨rfl, hx, -⟩
    · exact hf.elim
    · exact ⟨hA, xa, xr, xk, hi, th, tl, w, nS, nC, cm, cs, lo, le, lfi, ge, SS, g, gp, gd, o, hX, hMc, hC, hRm, ⟨s1, s2, s3, s4⟩, hO, hJ, hb, st, ex1, ln, st', ex1', ln', gz, gy, gs, gm, gw, gf, ⟨w1, w2, w3⟩, Or.inl ⟨by rw [hn]; decide, by rw [hn]; rfl, w4, w5⟩⟩
    · exact absurd hx (by decide)
    · exact absurd hx (by decide)
    · exact absurd hx (by decide)
  obtain ⟨kk, hk1, rfl⟩ := wi_nat (n := 1) (by omega) v0
  have hk2 : kk = 0 ∨ kk = 1 := by omega
  rcases hk2 with rfl | rfl
  · by_cases z0 : st = 0
    · have hn : X9_copyOversE_n6 gs gm (nI 0) p1 = 2 := by rw [cpN v0 w4 w5]; (repeat' split) <;> first | rfl | contradiction
      refine h_conH (w_copyOvers hfl (gl := o) (P := fun _ _ => False) (X := fun E u => E = "java/util/NoSuchElementException" ∧ u = f) hX (fun sz => h_mono (c_X8_copyOversE2a0 hfl p1 (x := AD 0) (A := AM AD) (b := 0) (b2 := 54) hX w1.1 w1.2 w2.1 w2.2 v0 z0) (Nat.le_of_ble_eq_true rfl) (Nat.le_of_ble_eq_true rfl) (Nat.le_of_ble_eq_true rfl) (Nat.le_of_ble_eq_true rfl)) (fun E u hx => Or.inr (Or.inl (hx.1))) (fun v w h => h.elim)) ?_
      intro r u hp
      rcases hp with ⟨rfl, v9, w9, hf, -⟩ | ⟨rfl, hx, -⟩ | ⟨rfl, -, rfl⟩ | ⟨rfl, hx, -⟩ | ⟨rfl, hx, -⟩
      · exact hf.elim
      · exact absurd hx (by decide)
      · exact ⟨hA, xa, xr, xk, hi, th, tl, w, nS, nC, cm, cs, lo, le, lfi, ge, SS, g, gp, gd, o, hX, hMc, hC, hRm, ⟨s1, s2, s3, s4⟩, hO, hJ, hb, st, ex1, ln, st', ex1', ln', gz, gy, gs, gm, gw, gf, ⟨w1, w2, w3⟩, Or.inl ⟨by rw [hn]; decide, by rw [hn]; rfl, w4, w5⟩⟩
      · exact absurd hx (by decide)
      · exact absurd hx (by decide)
    by_cases z1 : st' = 0
    · have hn : X9_copyOversE_n6 gs gm (nI 0) p1 = 2 := by rw [cpN v0 w4 w5]; (repeat' split) <;> first | rfl | contradiction
      refine h_conH (w_copyOvers hfl (gl := o) (P := fun _ _ => False) (X := fun E u => E = "java/util/NoSuchElementException" ∧ u = f) hX (fun sz => h_mono (c_X8_copyOversE2b0 hfl p1 (x := AD 0) (A := AM AD) (b := 0) (b2 := 54) hX w1.1 w1.2 w2.1 w2.2 v0 z0 z1) (Nat.le_of_ble_eq_true rfl) (Nat.le_of_ble_eq_true rfl) (Nat.le_of_ble_eq_true rfl) (Nat.le_of_ble_eq_true rfl)) (fun E u hx => Or.inr (Or.inl (hx.1))) (fun v w h => h.elim)) ?_
      intro r u hp
      rcases hp with ⟨rfl, v9, w9, hf, -⟩ | ⟨rfl, hx, -⟩ | ⟨rfl, -, rfl⟩ | ⟨rfl, hx, -⟩ | ⟨rfl, hx, -⟩
      · exact hf.elim
      · exact absurd hx (by decide)
      · exact ⟨hA, xa, xr, xk, hi, th, tl, w, nS, nC, cm, cs, lo, le, lfi, ge, SS, g, gp, gd, o, hX, hMc, hC, hRm, ⟨s1, s2, s3, s4⟩, hO, hJ, hb, st, ex1, ln, st', ex1', ln', gz, gy, gs, gm, gw, gf, ⟨w1, w2, w3⟩, Or.inl ⟨by rw [hn]; decide, by rw [hn]; rfl, w4, w5⟩⟩
      · exact absurd hx (by decide)
      · exact absurd hx (by decide)
    by_cases z2 : ¬ ex1 = ex1'
    · have hn : X9_copyOversE_n6 gs gm (nI 0) p1 = 3 := by rw [cpN v0 w4 w5]; (repeat' split) <;> first | rfl | contradiction
      refine h_conH (w_copyOvers hfl (gl := o) (P := fun _ _ => False) (X := fun E u => E = "java/lang/UnsupportedOperationException" ∧ u = f) hX (fun sz => h_mono (c_X8_copyOversE30 hfl p1 (x := AD 0) (A := AM AD) (b := 0) (b2 := 54) hX w1.1 w1.2 w2.1 w2.2 v0 z0 z1 z2) (Nat.le_of_ble_eq_true rfl) (Nat.le_of_ble_eq_true rfl) (Nat.le_of_ble_eq_true rfl) (Nat.le_of_ble_eq_true rfl)) (fun E u hx => Or.inr (Or.inr (Or.inl (hx.1)))) (fun v w h => h.elim)) ?_
      intro r u hp
      rcases hp with ⟨rfl, v9, w9, hf, -⟩ | ⟨rfl, hx, -⟩ | ⟨rfl, hx, -⟩ | ⟨rfl, -, rfl⟩ | ⟨rfl, hx, -⟩
      · exact hf.elim
      · exact absurd hx (by decide)
      · exact absurd hx (by decide)
      · exact ⟨hA, xa, xr, xk, hi, th, tl, w, nS, nC, cm, cs, lo, le, lfi, ge, SS, g, gp, gd, o, hX, hMc, hC, hRm, ⟨s1, s2, s3, s4⟩, hO, hJ, hb, st, ex1, ln, st', ex1', ln', gz, gy, gs, gm, gw, gf, ⟨w1, w2, w3⟩, Or.inl ⟨by rw [hn]; decide, by rw [hn]; rfl, w4, w5⟩⟩
      · exact absurd hx (by decide)
    replace z2 := Decidable.not_not.mp z2
    by_cases z3 : p1 < 0
    · have hn : X9_copyOversE_n6 gs gm (nI 0) p1 = 4 := by rw [cpN v0 w4 w5]; (repeat' split) <;> first | rfl | contradiction
      refine h_conH (w_copyOvers hfl (gl := o) (P := fun _ _ => False) (X := fun E u => E = "java/lang/IllegalArgumentException" ∧ u = f) hX (fun sz => h_mono (c_X8_copyOversE4a0 hfl p1 (x := AD 0) (A := AM AD) (b := 0) (b2 := 54) hX w1.1 w1.2 w2.1 w2.2 v0 z0 z1 z2 z3) (Nat.le_of_ble_eq_true rfl) (Nat.le_of_ble_eq_true rfl) (Nat.le_of_ble_eq_true rfl) (Nat.le_of_ble_eq_true rfl)) (fun E u hx => Or.inr (Or.inr (Or.inr (hx.1)))) (fun v w h => h.elim)) ?_
      intro r u hp
      rcases hp with ⟨rfl, v9, w9, hf, -⟩ | ⟨rfl, hx, -⟩ | ⟨rfl, hx, -⟩ | ⟨rfl, hx, -⟩ | ⟨rfl, -, rfl⟩
      · exact hf.elim
      · exact absurd hx (by decide)
      · exact absurd hx (by decide)
      · exact absurd hx (by decide)
      · exact ⟨hA, xa, xr, xk, hi, th, tl, w, nS, nC, cm, cs, lo, le, lfi, ge, SS, g, gp, gd, o, hX, hMc, hC, hRm, ⟨s1, s2, s3, s4⟩, hO, hJ, hb, st, ex1, ln, st', ex1', ln', gz, gy, gs, gm, gw, gf, ⟨w1, w2, w3⟩, Or.inl ⟨by rw [hn]; decide, by rw [hn]; rfl, w4, w5⟩⟩
    have y3 : 0 ≤ p1 := Int32.not_lt.mp z3
    by_cases z4 : ¬ p1 ≤ ln
    · have hn : X9_copyOversE_n6 gs gm (nI 0) p1 = 4 := by rw [cpN v0 w4 w5]; (repeat' split) <;> first | rfl | contradiction | exact absurd (Int32.not_lt.mp (by assumption)) z4
      refine h_conH (w_copyOvers hfl (gl := o) (P := fun _ _ => False) (X := fun E u => E = "java/lang/IllegalArgumentException" ∧ u = f) hX (fun sz => h_mono (c_X8_copyOversE4b0 hfl p1 (x := AD 0) (A := AM AD) (b := 0) (b2 := 54) hX w1.1 w1.2 w2.1 w2.2 v0 z0 z1 z2 y3 (Int32.not_le.mp z4)) (Nat.le_of_ble_eq_true rfl) (Nat.le_of_ble_eq_true rfl) (Nat.le_of_ble_eq_true rfl) (Nat.le_of_ble_eq_true rfl)) (fun E u hx => Or.inr (Or.inr (Or.inr (hx.1)))) (fun v w h => h.elim)) ?_
      intro r u hp
      rcases hp with ⟨rfl, v9, w9, hf, -⟩ | ⟨rfl, hx, -⟩ | ⟨rfl, hx, -⟩ | ⟨rfl, hx, -⟩ | ⟨rfl, -, rfl⟩
      · exact hf.elim
      · exact absurd hx (by decide)
      · exact absurd hx (by decide)
      · exact absurd hx (by decide)
      · exact ⟨hA, xa, xr, xk, hi, th, tl, w, nS, nC, cm, cs, lo, le, lfi, ge, SS, g, gp, gd, o, hX, hMc, hC, hRm, ⟨s1, s2, s3, s4⟩, hO, hJ, hb, st, ex1, ln, st', ex1', ln', gz, gy, gs, gm, gw, gf, ⟨w1, w2, w3⟩, Or.inl ⟨by rw [hn]; decide, by rw [hn]; rfl, w4, w5⟩⟩
    replace z4 := Decidable.not_not.mp z4
    by_cases z5 : ¬ p1 ≤ ln'
    · have hn : X9_copyOversE_n6 gs gm (nI 0) p1 = 4 := by rw [cpN v0 w4 w5]; (repeat' split) <;> first | rfl | contradiction | exact absurd (Int32.not_lt.mp (by assumption)) z5
      refine h_conH (w_copyOvers hfl (gl := o) (P := fun _ _ => False) (X := fun E u => E = "java/lang/IllegalArgumentException" ∧ u = f) hX (fun sz => h_mono (c_X8_copyOversE4c0 hfl p1 (x := AD 0) (A := AM AD) (b := 0) (b2 := 54) hX w1.1 w1.2 w2.1 w2.2 v0 z0 z1 z2 y3 z4 (Int32.not_le.mp z5)) (Nat.le_of_ble_eq_true rfl) (Nat.le_of_ble_eq_true rfl) (Nat.le_of_ble_eq_true rfl) (Nat.le_of_ble_eq_true rfl)) (fun E u hx => Or.inr (Or.inr (Or.inr (hx.1)))) (fun v w h => h.elim)) ?_
      intro r u hp
      rcases hp with ⟨rfl, v9, w9, hf, -⟩ | ⟨rfl, hx, -⟩ | ⟨rfl, hx, -⟩ | ⟨rfl, hx, -⟩ | ⟨rfl, -, rfl⟩
      · exact hf.elim
      · exact absurd hx (by decide)
      · exact absurd hx (by decide)
      · exact absurd hx (by decide)
      · exact ⟨hA, xa, xr, xk, hi, th, tl, w, nS, nC, cm, cs, lo, le, lfi, ge, SS, g, gp, gd, o, hX, hMc, hC, hRm, ⟨s1, s2, s3, s4⟩, hO, hJ, hb, st, ex1, ln, st', ex1', ln', gz, gy, gs, gm, gw, gf, ⟨w1, w2, w3⟩, Or.inl ⟨by rw [hn]; decide, by rw [hn]; rfl, w4, w5⟩⟩
    replace z5 := Decidable.not_not.mp z5
    have hn : X9_copyOversE_n6 gs gm (nI 0) p1 = 0 := by
      rw [cpN v0 w4 w5, if_neg z0, if_neg z1, if_pos z2, if_neg z3, if_neg (Int32.not_lt.mpr z4), if_pos z5]
    obtain ⟨n9, n1, n2, -⟩ := id w4
    obtain ⟨cn, hcn, rfl⟩ := in_nat (x := p1) (n := n9) (by omega) y3 (by rw [← n2]; exact z4)
    refine h_conH (w_copyOvers hfl (gl := o) hX (fun sz => h_mono (c_X8_copyOversY0 hfl (x := AD 0) (A := AM AD) (b := 0) (b2 := 54) hX w1.1 w1.2 w2.1 w2.2 v0 z0 z1 z2 y3 z4 z5 (by omega) (AD_ne hA (by omega))) (Nat.le_of_ble_eq_true rfl) (Nat.le_of_ble_eq_true rfl) (Nat.le_of_ble_eq_true rfl) (Nat.le_of_ble_eq_true rfl)) (fun _ _ h => False.elim h) (fun v9 u9 hp => OUT_fr (fr_w1 hA w2 hp.2.2) (by omega) hO)) ?_
    intro r u hp
    rcases hp with ⟨rfl, v9, u9, ⟨e9, y1, y2⟩, hu⟩ | ⟨-, hx⟩ | ⟨-, hx⟩ | ⟨-, hx⟩ | ⟨-, hx⟩
    · have F1 := fr_w1 hA w2 y2
      obtain ⟨F2, O2⟩ := FR_up hA (nsc_a (OUT_fr F1 (by omega) hO)) hu
      have F := FR_trans F1 F2
      refine ⟨hA, xa, xr, xk, hi, th, tl, w, nS, nC, cm, cs, lo, le, lfi, ge, SS, g, gp, gd, _, XC_fr F (by omega) hX, MC_fr F (by omega) hMc, CMN_fr F (fun i h1 h2 => by omega) (by omega) (by omega) (by omega) hC, RMN_fr F (by omega) (by omega) (by omega) hRm, RSM_fr F (fun i h => by omega) (Nat.le_refl _) ⟨s1, s2, s3, s4⟩, O2, hJ, hb, st, ex1, ln, st', ex1', ln', gz, _, gs, gm, gw, gf, ⟨RW_fr F (by omega) (by omega) w1, RW_fr F2 (by omega) (by omega) ⟨F1.1 _ _ (by omega) w2.1, y1⟩, RRW_fr F (by omega) (by omega) (by omega) (by omega) w3⟩, Or.inr ⟨hn, rfl, cn, by omega, rfl, z0, z1, z2, z4, z5, Or.inl ⟨rfl, gy, rfl, w4, w5, ?_⟩⟩⟩
      rw [← e9]; exact if_pos rfl
    · exact hx.elim
    · exact hx.elim
    · exact hx.elim
    · exact hx.elim
  · by_cases z0 : st' = 0
    · have hn : X9_copyOversE_n6 gs gm (nI 1) p1 = 2 := by rw [cpN v0 w4 w5]; (repeat' split) <;> first | rfl | contradiction
      refine h_conH (w_copyOvers hfl (gl := o) (P := fun _ _ => False) (X := fun E u => E = "java/util/NoSuchElementException" ∧ u = f) hX (fun sz => h_mono (c_X8_copyOversE2a1 hfl p1 (x := AD 0) (A := AM AD) (b := 0) (b2 := 54) hX w1.1 w1.2 w2.1 w2.2 v0 z0) (Nat.le_of_ble_eq_true rfl) (Nat.le_of_ble_eq_true rfl) (Nat.le_of_ble_eq_true rfl) (Nat.le_of_ble_eq_true rfl)) (fun E u hx => Or.inr (Or.inl (hx.1))) (fun v w h => h.elim)) ?_
      intro r u hp
      rcases hp with ⟨rfl, v9, w9, hf, -⟩ | ⟨rfl, hx, -⟩ | ⟨rfl, -, rfl⟩ | ⟨rfl, hx, -⟩ | ⟨rfl, hx, -⟩
      · exact hf.elim
      · exact absurd hx (by decide)
      · exact ⟨hA, xa, xr, xk, hi, th, tl, w, nS, nC, cm, cs, lo, le, lfi, ge, SS, g, gp, gd, o, hX, hMc, hC, hRm, ⟨s1, s2, s3, s4⟩, hO, hJ, hb, st, ex1, ln, st', ex1', ln', gz, gy, gs, gm, gw, gf, ⟨w1, w2, w3⟩, Or.inl ⟨by rw [hn]; decide, by rw [hn]; rfl, w4, w5⟩⟩
      · exact absurd hx (by decide)
      · exact absurd hx (by decide)
    by_cases z1 : st = 0
    · have hn : X9_copyOversE_n6 gs gm (nI 1) p1 = 2 := by rw [cpN v0 w4 w5]; (repeat' split) <;> first | rfl | contradiction
      refine h_conH (w_copyOvers hfl (gl := o) (P := fun _ _ => False) (X := fun E u => E = "java/util/NoSuchElementException" ∧ u = f) hX (fun sz => h_mono (c_X8_copyOversE2b1 hfl p1 (x := AD 0) (A := AM AD) (b := 0) (b2 := 54) hX w1.1 w1.2 w2.1 w2.2 v0 z0 z1) (Nat.le_of_ble_eq_true rfl) (Nat.le_of_ble_eq_true rfl) (Nat.le_of_ble_eq_true rfl) (Nat.le_of_ble_eq_true rfl)) (fun E u hx => Or.inr (Or.inl (hx.1))) (fun v w h => h.elim)) ?_
      intro r u hp
      rcases hp with ⟨rfl, v9, w9, hf, -⟩ | ⟨rfl, hx, -⟩ | ⟨rfl, -, rfl⟩ | ⟨rfl, hx, -⟩ | ⟨rfl, hx, -⟩
      · exact hf.elim
      · exact absurd hx (by decide)
      · exact ⟨hA, xa, xr, xk, hi, th, tl, w, nS, nC, cm, cs, lo, le, lfi, ge, SS, g, gp, gd, o, hX, hMc, hC, hRm, ⟨s1, s2, s3, s4⟩, hO, hJ, hb, st, ex1, ln, st', ex1', ln', gz, gy, gs, gm, gw, gf, ⟨w1, w2, w3⟩, Or.inl ⟨by rw [hn]; decide, by rw [hn]; rfl, w4, w5⟩⟩
      · exact absurd hx (by decide)
      · exact absurd hx (by decide)
    by_cases z2 : ¬ ex1 = ex1'
    · have hn : X9_copyOversE_n6 gs gm (nI 1) p1 = 3 := by rw [cpN v0 w4 w5]; (repeat' split) <;> first | rfl | contradiction
      refine h_conH (w_copyOvers hfl (gl := o) (P := fun _ _ => False) (X := fun E u => E = "java/lang/UnsupportedOperationException" ∧ u = f) hX (fun sz => h_mono (c_X8_copyOversE31 hfl p1 (x := AD 0) (A := AM AD) (b := 0) (b2 := 54) hX w1.1 w1.2 w2.1 w2.2 v0 z0 z1 (fun z => z2 z.symm)) (Nat.le_of_ble_eq_true rfl) (Nat.le_of_ble_eq_true rfl) (Nat.le_of_ble_eq_true rfl) (Nat.le_of_ble_eq_true rfl)) (fun E u hx => Or.inr (Or.inr (Or.inl (hx.1)))) (fun v w h => h.elim)) ?_
      intro r u hp
      rcases hp with ⟨rfl, v9, w9, hf, -⟩ | ⟨rfl, hx, -⟩ | ⟨rfl, hx, -⟩ | ⟨rfl, -, rfl⟩ | ⟨rfl, hx, -⟩
      · exact hf.elim
      · exact absurd hx (by decide)
      · exact absurd hx (by decide)
      · exact ⟨hA, xa, xr, xk, hi, th, tl, w, nS, nC, cm, cs, lo, le, lfi, ge, SS, g, gp, gd, o, hX, hMc, hC, hRm, ⟨s1, s2, s3, s4⟩, hO, hJ, hb, st, ex1, ln, st', ex1', ln', gz, gy, gs, gm, gw, gf, ⟨w1, w2, w3⟩, Or.inl ⟨by rw [hn]; decide, by rw [hn]; rfl, w4, w5⟩⟩
      · exact absurd hx (by decide)
    replace z2 := Decidable.not_not.mp z2
    by_cases z3 : p1 < 0
    · have hn : X9_copyOversE_n6 gs gm (nI 1) p1 = 4 := by rw [cpN v0 w4 w5]; (repeat' split) <;> first | rfl | contradiction
      refine h_conH (w_copyOvers hfl (gl := o) (P := fun _ _ => False) (X := fun E u => E = "java/lang/IllegalArgumentException" ∧ u = f) hX (fun sz => h_mono (c_X8_copyOversE4a1 hfl p1 (x := AD 0) (A := AM AD) (b := 0) (b2 := 54) hX w1.1 w1.2 w2.1 w2.2 v0 z0 z1 z2.symm z3) (Nat.le_of_ble_eq_true rfl) (Nat.le_of_ble_eq_true rfl) (Nat.le_of_ble_eq_true rfl) (Nat.le_of_ble_eq_true rfl)) (fun E u hx => Or.inr (Or.inr (Or.inr (hx.1)))) (fun v w h => h.elim)) ?_
      intro r u hp
      rcases hp with ⟨rfl, v9, w9, hf, -⟩ | ⟨rfl, hx, -⟩ | ⟨rfl, hx, -⟩ | ⟨rfl, hx, -⟩ | ⟨rfl, -, rfl⟩
      · exact hf.elim
      · exact absurd hx (by decide)
      · exact absurd hx (by decide)
      · exact absurd hx (by decide)
      · exact ⟨hA, xa, xr, xk, hi, th, tl, w, nS, nC, cm, cs, lo, le, lfi, ge, SS, g, gp, gd, o, hX, hMc, hC, hRm, ⟨s1, s2, s3, s4⟩, hO, hJ, hb, st, ex1, ln, st', ex1', ln', gz, gy, gs, gm, gw, gf, ⟨w1, w2, w3⟩, Or.inl ⟨by rw [hn]; decide, by rw [hn]; rfl, w4, w5⟩⟩
    have y3 : 0 ≤ p1 := Int32.not_lt.mp z3
    by_cases z4 : ¬ p1 ≤ ln'
    · have hn : X9_copyOversE_n6 gs gm (nI 1) p1 = 4 := by rw [cpN v0 w4 w5]; (repeat' split) <;> first | rfl | contradiction | exact absurd (Int32.not_lt.mp (by assumption)) z4
      refine h_conH (w_copyOvers hfl (gl := o) (P := fun _ _ => False) (X := fun E u => E = "java/lang/IllegalArgumentException" ∧ u = f) hX (fun sz => h_mono (c_X8_copyOversE4b1 hfl p1 (x := AD 0) (A := AM AD) (b := 0) (b2 := 54) hX w1.1 w1.2 w2.1 w2.2 v0 z0 z1 z2.symm y3 (Int32.not_le.mp z4)) (Nat.le_of_ble_eq_true rfl) (Nat.le_of_ble_eq_true rfl) (Nat.le_of_ble_eq_true rfl) (Nat.le_of_ble_eq_true rfl)) (fun E u hx => Or.inr (Or.inr (Or.inr (hx.1)))) (fun v w h => h.elim)) ?_
      intro r u hp
      rcases hp with ⟨rfl, v9, w9, hf, -⟩ | ⟨rfl, hx, -⟩ | ⟨rfl, hx, -⟩ | ⟨rfl, hx, -⟩ | ⟨rfl, -, rfl⟩
      · exact hf.elim
      · exact absurd hx (by decide)
      · exact absurd hx (by decide)
      · exact absurd hx (by decide)
      · exact ⟨hA, xa, xr, xk, hi, th, tl, w, nS, nC, cm, cs, lo, le, lfi, ge, SS, g, gp, gd, o, hX, hMc, hC, hRm, ⟨s1, s2, s3, s4⟩, hO, hJ, hb, st, ex1, ln, st', ex1', ln', gz, gy, gs, gm, gw, gf, ⟨w1, w2, w3⟩, Or.inl ⟨by rw [hn]; decide, by rw [hn]; rfl, w4, w5⟩⟩
    replace z4 := Decidable.not_not.mp z4
    by_cases z5 : ¬ p1 ≤ ln
    · have hn : X9_copyOversE_n6 gs gm (nI 1) p1 = 4 := by rw [cpN v0 w4 w5]; (repeat' split) <;> first | rfl | contradiction | exact absurd (Int32.not_lt.mp (by assumption)) z5
      refine h_conH (w_copyOvers hfl (gl := o) (P := fun _ _ => False) (X := fun E u => E = "java/lang/IllegalArgumentException" ∧ u = f) hX (fun sz => h_mono (c_X8_copyOversE4c1 hfl p1 (x := AD 0) (A := AM AD) (b := 0) (b2 := 54) hX w1.1 w1.2 w2.1 w2.2 v0 z0 z1 z2.symm y3 z4 (Int32.not_le.mp z5)) (Nat.le_of_ble_eq_true rfl) (Nat.le_of_ble_eq_true rfl) (Nat.le_of_ble_eq_true rfl) (Nat.le_of_ble_eq_true rfl)) (fun E u hx => Or.inr (Or.inr (Or.inr (hx.1)))) (fun v w h => h.elim)) ?_
      intro r u hp
      rcases hp with ⟨rfl, v9, w9, hf, -⟩ | ⟨rfl, hx, -⟩ | ⟨rfl, hx, -⟩ | ⟨rfl, hx, -⟩ | ⟨rfl, -, rfl⟩
      · exact hf.elim
      · exact absurd hx (by decide)
      · exact absurd hx (by decide)
      · exact absurd hx (by decide)
      · exact ⟨hA, xa, xr, xk, hi, th, tl, w, nS, nC, cm, cs, lo, le, lfi, ge, SS, g, gp, gd, o, hX, hMc, hC, hRm, ⟨s1, s2, s3, s4⟩, hO, hJ, hb, st, ex1, ln, st', ex1', ln', gz, gy, gs, gm, gw, gf, ⟨w1, w2, w3⟩, Or.inl ⟨by rw [hn]; decide, by rw [hn]; rfl, w4, w5⟩⟩
    replace z5 := Decidable.not_not.mp z5
    have hn : X9_copyOversE_n6 gs gm (nI 1) p1 = 0 := by
      rw [cpN v0 w4 w5, if_neg z1, if_neg z0, if_pos z2, if_neg z3, if_neg (Int32.not_lt.mpr z5), if_pos z4]
    obtain ⟨n9, n1, n2, -⟩ := id w4
    obtain ⟨cn, hcn, rfl⟩ := in_nat (x := p1) (n := n9) (by omega) y3 (by rw [← n2]; exact z5)
    refine h_conH (w_copyOvers hfl (gl := o) hX (fun sz => h_mono (c_X8_copyOversY1 hfl (x := AD 0) (A := AM AD) (b := 0) (b2 := 54) hX w1.1 w1.2 w2.1 w2.2 v0 z0 z1 z2.symm y3 z4 z5 (by omega) (AD_ne hA (by omega))) (Nat.le_of_ble_eq_true rfl) (Nat.le_of_ble_eq_true rfl) (Nat.le_of_ble_eq_true rfl) (Nat.le_of_ble_eq_true rfl)) (fun _ _ h => False.elim h) (fun v9 u9 hp => OUT_fr (fr_w1 hA w1 hp.2.2) (by omega) hO)) ?_
    intro r u hp
    rcases hp with ⟨rfl, v9, u9, ⟨e9, y1, y2⟩, hu⟩ | ⟨-, hx⟩ | ⟨-, hx⟩ | ⟨-, hx⟩ | ⟨-, hx⟩
    · have F1 := fr_w1 hA w1 y2
      obtain ⟨F2, O2⟩ := FR_up hA (nsc_a (OUT_fr F1 (by omega) hO)) hu
      have F := FR_trans F1 F2
      refine ⟨hA, xa, xr, xk, hi, th, tl, w, nS, nC, cm, cs, lo, le, lfi, ge, SS, g, gp, gd, _, XC_fr F (by omega) hX, MC_fr F (by omega) hMc, CMN_fr F (fun i h1 h2 => by omega) (by omega) (by omega) (by omega) hC, RMN_fr F (by omega) (by omega) (by omega) hRm, RSM_fr F (fun i h => by omega) (Nat.le_refl _) ⟨s1, s2, s3, s4⟩, O2, hJ, hb, st, ex1, ln, st', ex1', ln', _, gy, gs, gm, gw, gf, ⟨RW_fr F2 (by omega) (by omega) ⟨F1.1 _ _ (by omega) w1.1, y1⟩, RW_fr F (by omega) (by omega) w2, RRW_fr F (by omega) (by omega) (by omega) (by omega) w3⟩, Or.inr ⟨hn, rfl, cn, by omega, rfl, z1, z0, z2, z5, z4, Or.inr ⟨rfl, gz, rfl, w4, w5, ?_⟩⟩⟩
      rw [← e9]; exact if_pos rfl
    · exact hx.elim
    · exact hx.elim
    · exact hx.elim
    · exact hx.elim
set_option maxRecDepth 100000 in
theorem kR_copyOvers {l : Launch} (hfl : l.stackTraces = false) {D : va_G} {cy : Nat → ClassId} {f : Hf} {sz : Nat} {AD : Nat → Nat} {q q2 : Nat → Option Nat} {k : Nat} {r : Int32} (p0 p1 : Int32) (h : MIDC AD cy q q2 k p0 p1 r f) : hMet l yX9_copyOvers cX9_copyOvers 7 (some .boolean) { frames := 6, cells := 0, slots := 0, locals := 158 } D (hTy cy) f sz [.ref (AD 125), .int p0, .int p1] (hQi (fun b u => ∃ o, WJ AD cy q q2 (k + 1) r o u) D f sz) hNo := by
  obtain ⟨hA, xa, xr, xk, hi, th, tl, w, nS, nC, cm, cs, lo, le, lfi, ge, SS, g, gp, gd, o, hX, hMc, hC, hRm, ⟨s1, s2, s3, od, s4⟩, hO, hJ, hb, st, ex1, ln, st', ex1', ln', gz, gy, gs, gm, gw, gf, ⟨w1, w2, w3⟩, hc⟩ := h
  obtain ⟨ps, pl, to, hm⟩ := id hMc
  rcases hc with ⟨hn, rfl, w4, w5⟩ | ⟨hn, rfl, cn, hcn, rfl, n0, n1, he, l0, l1, hc⟩
  · have hRst : RST AD cy q2 f hi tl k := ⟨s1, s2, ⟨st, ex1, ln, st', ex1', ln', gz, gy, gs, gm, gw, gf, w1, w2, w3, w4, w5⟩, s3, od, s4⟩
    exact h_conI (h_mono (k_X9_copyOversE hfl p0 p1 hm w3.1 w3.2.1 (fun z => hn (by
      have h9 : X9_copyOversE_n6 gs gm p0 p1 ≤ 4 := n6_le
      have := (nI_leI (a := X9_copyOversE_n6 gs gm p0 p1) (b := 0) (by omega) (by omega)).mp z
      omega))) (Nat.le_of_ble_eq_true rfl) (Nat.le_of_ble_eq_true rfl) (Nat.le_of_ble_eq_true rfl) (Nat.le_of_ble_eq_true rfl)) (fun b u hp => ⟨o, WJ_th hA hX hMc hC hRm hRst hO hJ hb (fr_o hA hMc hp.2.2) ⟨_, _, _, hp.2.1⟩⟩) (fun _ _ h => h)
  · rcases hc with ⟨rfl, g0, rfl, w4, w5, ho⟩ | ⟨rfl, g0, rfl, w4, w5, ho⟩
    · have hn5 : X9_copyOvers0_n5 gs gm cn = 0 := (if_neg (show ¬ X9_isIn_x1 0 0 1 = 0 by decide)).symm.trans hn
      refine h_conI (h_mono (k_X9_copyOvers0 hfl (ct := 0) hm w3.1 w3.2.1 w3.2.2.1 w3.2.2.2 (by omega) (by rw [hn5]; decide)) (Nat.le_of_ble_eq_true rfl) (Nat.le_of_ble_eq_true rfl) (Nat.le_of_ble_eq_true rfl) (Nat.le_of_ble_eq_true rfl)) ?_ (fun _ _ h => h)
      intro b u hp
      obtain ⟨er, em, ewh, epf, ef⟩ := hp
      rw [show nI (X9_copyOvers0_n5 gs gm cn) = 0 from by rw [hn5]; rfl] at em
      have F := fr_rw hA hMc w3 (hFrL_mono ef (fun y hy => by
        simp only [List.mem_cons, List.not_mem_nil, or_false] at hy ⊢
        rcases hy with z | z | z <;> simp [z]))
      have eso : IA AD cy u 134 2 gs := ef _ _ (fun hm9 => by
        simp only [List.mem_cons, List.not_mem_nil, or_false] at hm9
        rcases hm9 with z | z | z <;> exact absurd z (AD_ne hA (by omega))) w3.1
      have emo : IA AD cy u 135 2 gm := ef _ _ (fun hm9 => by
        simp only [List.mem_cons, List.not_mem_nil, or_false] at hm9
        rcases hm9 with z | z | z <;> exact absurd z (AD_ne hA (by omega))) w3.2.1
      refine ⟨o, hA, xa, xr, xk, hi, tl, w, nS, nC, cm, cs, lo, le, lfi, ge, SS, g, gp, gd, XC_fr F (by unfold IW; omega) hX, ⟨_, _, _, em⟩, CMN_fr F (fun i h1 h2 => by unfold IW; omega) (by unfold IW; omega) (by unfold IW; omega) (by unfold IW; omega) hC, RMN_fr F (by unfold IW; omega) (by unfold IW; omega) (by unfold IW; omega) hRm, ⟨SVG_fr F (by unfold IW; omega) (by unfold IW; omega) (by unfold IW; omega) (by unfold IW; omega) (by unfold IW; omega) (by omega) s1, TXG_fr F (by unfold IW; omega) (by unfold IW; omega) (by unfold IW; omega) (by unfold IW; omega) s2, ⟨st, ex1, ln, st', ex1', ln', gz, _, gs, gm, _, _, RW_fr F (by unfold IW; omega) (by unfold IW; omega) w1, RW_fr F (by unfold IW; omega) (by unfold IW; omega) w2, ⟨eso, emo, ewh, epf⟩, JRW_ext w4 rfl rfl (fun i hi => ?_) (fun i hi => ?_), JRW_cp w4 w5 he n0 l0 hcn (fun i hi => ?_) (fun i hi => ?_)⟩, JNK_fr F (fun i h1 h2 => by unfold IW; omega) (by unfold IW; omega) (by unfold IW; omega) s3, od, OUD_fr F (by unfold IW; omega) s4⟩, OUT_fr F (by unfold IW; omega) hO, hJ, by omega⟩
      · exact cpo_out (by omega)
      · exact cpoF_out (by omega)
      · unfold X9_copyOvers0_g10
        by_cases q9 : i < cn
        · unfold cpo
          rw [if_pos q9, if_pos (by omega)]
          exact congrArg gw (by omega)
        · rw [if_neg q9]; exact cpo_out (by omega)
      · unfold X9_copyOvers0_g11
        by_cases q9 : i < cn
        · unfold cpoF
          rw [if_pos q9, if_pos (by omega)]
          exact congrArg gf (by omega)
        · rw [if_neg q9]; exact cpoF_out (by omega)
    · have hn5 : X9_copyOvers1_n5 gs gm cn = 0 := (if_neg (show ¬ X9_isIn_x1 1 0 1 = 0 by decide)).symm.trans hn
      refine h_conI (h_mono (k_X9_copyOvers1 hfl (ct := 0) hm w3.1 w3.2.1 w3.2.2.1 w3.2.2.2 (by omega) (by rw [hn5]; decide)) (Nat.le_of_ble_eq_true rfl) (Nat.le_of_ble_eq_true rfl) (Nat.le_of_ble_eq_true rfl) (Nat.le_of_ble_eq_true rfl)) ?_ (fun _ _ h => h)
      intro b u hp
      obtain ⟨er, em, ewh, epf, ef⟩ := hp
      rw [show nI (X9_copyOvers1_n5 gs gm cn) = 0 from by rw [hn5]; rfl] at em
      have F := fr_rw hA hMc w3 (hFrL_mono ef (fun y hy => by
        simp only [List.mem_cons, List.not_mem_nil, or_false] at hy ⊢
        rcases hy with z | z | z <;> simp [z]))
      have eso : IA AD cy u 134 2 gs := ef _ _ (fun hm9 => by
        simp only [List.mem_cons, List.not_mem_nil, or_false] at hm9
        rcases hm9 with z | z | z <;> exact absurd z (AD_ne hA (by omega))) w3.1
      have emo : IA AD cy u 135 2 gm := ef _ _ (fun hm9 => by
        simp only [List.mem_cons, List.not_mem_nil, or_false] at hm9
        rcases hm9 with z | z | z <;> exact absurd z (AD_ne hA (by omega))) w3.2.1
      refine ⟨o, hA, xa, xr, xk, hi, tl, w, nS, nC, cm, cs, lo, le, lfi, ge, SS, g, gp, gd, XC_fr F (by unfold IW; omega) hX, ⟨_, _, _, em⟩, CMN_fr F (fun i h1 h2 => by unfold IW; omega) (by unfold IW; omega) (by unfold IW; omega) (by unfold IW; omega) hC, RMN_fr F (by unfold IW; omega) (by unfold IW; omega) (by unfold IW; omega) hRm, ⟨SVG_fr F (by unfold IW; omega) (by unfold IW; omega) (by unfold IW; omega) (by unfold IW; omega) (by unfold IW; omega) (by omega) s1, TXG_fr F (by unfold IW; omega) (by unfold IW; omega) (by unfold IW; omega) (by unfold IW; omega) s2, ⟨st, ex1, ln, st', ex1', ln', _, gy, gs, gm, _, _, RW_fr F (by unfold IW; omega) (by unfold IW; omega) w1, RW_fr F (by unfold IW; omega) (by unfold IW; omega) w2, ⟨eso, emo, ewh, epf⟩, JRW_cp w5 w4 he.symm n1 l1 hcn (fun i hi => ?_) (fun i hi => ?_), JRW_ext w5 rfl rfl (fun i hi => ?_) (fun i hi => ?_)⟩, JNK_fr F (fun i h1 h2 => by unfold IW; omega) (by unfold IW; omega) (by unfold IW; omega) s3, od, OUD_fr F (by unfold IW; omega) s4⟩, OUT_fr F (by unfold IW; omega) hO, hJ, by omega⟩
      · unfold X9_copyOvers1_g10
        by_cases q9 : i < cn
        · unfold cpo
          rw [if_pos q9, if_pos (by omega)]
          exact congrArg gw (by omega)
        · rw [if_neg q9]; exact cpo_out (by omega)
      · unfold X9_copyOvers1_g11
        by_cases q9 : i < cn
        · unfold cpoF
          rw [if_pos q9, if_pos (by omega)]
          exact congrArg gf (by omega)
        · rw [if_neg q9]; exact cpoF_out (by omega)
      · exact cpo_out (by omega)
      · exact cpoF_out (by omega)
set_option maxRecDepth 100000 in
theorem kL_storedOvers {l : Launch} (hfl : l.stackTraces = false) {D : va_G} {cy : Nat → ClassId} {f : Hf} {sz : Nat} {AD : Nat → Nat} {q q2 : Nat → Option Nat} {k : Nat} {th : Int32} {o : Nat → Int64} (p0 p1 : Int32) (h : WJ AD cy q q2 k th o f) : hMetH l yL_storedOvers cL_storedOvers 5 (some .int) [((0 : Nat), (10 : Nat), (13 : Nat), (19 : Nat)), ((0 : Nat), (10 : Nat), (17 : Nat), (57 : Nat))] { frames := 9, cells := 64, slots := 600, locals := 170 } D (hTy cy) f sz [.ref (AD 0), .int p0, .int p1, .ref (AD 139)] (hQi (fun r u => ∃ o, WJ AD cy q q2 k th o u) D f sz) hNo := by
  have h0 := h
  obtain ⟨hA, xa, xr, xk, hi, tl, w, nS, nC, cm, cs, lo, le, lfi, ge, SS, g, gp, gd, hX, hMc, hC, hRm, hRs, hO, hJ, hb⟩ := h
  obtain ⟨s1, s2, ⟨st, ex1, ln, st', ex1', ln', gz, gy, gs, gm, gw, gf, w1, w2, w3, w4, w5⟩, s3, s4⟩ := hRs
  obtain ⟨od, hod⟩ := s4
  have K : ∀ sz, hMet l yX8_storedOvers cX8_storedOvers 3 (some .float) { frames := 8, cells := 64, slots := 600, locals := 140 } D (hTy cy) f sz [.ref (AD 0), .int p0, .int p1] (hQf (fun r u => u = f ∧ vf_n64 (FP.f2d r)) D f sz) (fun E u => (E = "java/lang/IndexOutOfBoundsException" ∨ E = "java/util/NoSuchElementException") ∧ u = f) := by
    intro sz
    by_cases v0 : X8_isWithin_x1 p0 0 1 = 0
    · exact h_conF (h_mono (c_X8_storedOversB hfl p0 p1 (x := AD 0) (A := AM AD) (b := 0) (b2 := 54) hX v0) (Nat.le_of_ble_eq_true rfl) (Nat.le_of_ble_eq_true rfl) (Nat.le_of_ble_eq_true rfl) (Nat.le_of_ble_eq_true rfl)) (fun r u h => h.elim) (fun E u h => ⟨Or.inl h.1, h.2⟩)
    obtain ⟨kk, hk1, rfl⟩ := wi_nat (n := 1) (by omega) v0
    have hk2 : kk = 0 ∨ kk = 1 := by omega
    rcases hk2 with rfl | rfl
    · by_cases z0 : X4_has_x2 st ln p1 = 0
      · exact h_conF (h_mono (c_X8_storedOversE0 hfl p1 (x := AD 0) (A := AM AD) (b := 0) (b2 := 54) hX w1.1 w1.2 v0 z0) (Nat.le_of_ble_eq_true rfl) (Nat.le_of_ble_eq_true rfl) (Nat.le_of_ble_eq_true rfl) (Nat.le_of_ble_eq_true rfl)) (fun r u h => h.elim) (fun E u h => ⟨Or.inr h.1, h.2⟩)
      obtain ⟨kx, hkx, rfl, hn⟩ := has_in w4 z0
      exact h_conF (h_mono (c_X8_storedOversY0 hfl (x := AD 0) (A := AM AD) (b := 0) (b2 := 54) hX w1.1 w1.2 v0 z0 hkx) (Nat.le_of_ble_eq_true rfl) (Nat.le_of_ble_eq_true rfl) (Nat.le_of_ble_eq_true rfl) (Nat.le_of_ble_eq_true rfl)) (fun r u h => ⟨h.2, by rw [h.1]; exact f2d_n hn⟩) (fun _ _ h => False.elim h)
    · by_cases z0 : X4_has_x2 st' ln' p1 = 0
      · exact h_conF (h_mono (c_X8_storedOversE1 hfl p1 (x := AD 0) (A := AM AD) (b := 0) (b2 := 54) hX w2.1 w2.2 v0 z0) (Nat.le_of_ble_eq_true rfl) (Nat.le_of_ble_eq_true rfl) (Nat.le_of_ble_eq_true rfl) (Nat.le_of_ble_eq_true rfl)) (fun r u h => h.elim) (fun E u h => ⟨Or.inr h.1, h.2⟩)
      obtain ⟨kx, hkx, rfl, hn⟩ := has_in w5 z0
      exact h_conF (h_mono (c_X8_storedOversY1 hfl (x := AD 0) (A := AM AD) (b := 0) (b2 := 54) hX w2.1 w2.2 v0 z0 hkx) (Nat.le_of_ble_eq_true rfl) (Nat.le_of_ble_eq_true rfl) (Nat.le_of_ble_eq_true rfl) (Nat.le_of_ble_eq_true rfl)) (fun r u h => ⟨h.2, by rw [h.1]; exact f2d_n hn⟩) (fun _ _ h => False.elim h)
  refine h_conH (w_storedOvers hfl (gl := od) hX K (fun E u h => h.1) (fun v w h => by rw [h.1]; exact hod) (fun v w h => h.2)) ?_
  intro r u hp
  rcases hp with ⟨-, v9, w9, ⟨rfl, -⟩, hu⟩ | ⟨-, -, rfl⟩ | ⟨-, -, rfl⟩
  · exact ⟨o, WJ_outD h0 hod hu⟩
  · exact ⟨o, h0⟩
  · exact ⟨o, h0⟩
set_option maxRecDepth 100000 in
theorem kR_storedOvers {l : Launch} (hfl : l.stackTraces = false) {D : va_G} {cy : Nat → ClassId} {f : Hf} {sz : Nat} {AD : Nat → Nat} {q q2 : Nat → Option Nat} {k : Nat} {th : Int32} {o : Nat → Int64} (p0 p1 : Int32) (h : WJ AD cy q q2 k th o f) : hMet l yX9_storedOvers cX9_storedOvers 3 (some .float) { frames := 6, cells := 0, slots := 0, locals := 158 } D (hTy cy) f sz [.ref (AD 125), .int p0, .int p1] (hQf (fun b u => ∃ th, WJ AD cy q q2 (k + 1) th o u) D f sz) hNo := by
  obtain ⟨hA, xa, xr, xk, hi, tl, w, nS, nC, cm, cs, lo, le, lfi, ge, SS, g, gp, gd, hX, hMc, hC, hRm, hRs, hO, hJ, hb⟩ := h
  obtain ⟨ps, pl, to, hm⟩ := id hMc
  obtain ⟨s1, s2, ⟨st, ex1, ln, st', ex1', ln', gz, gy, gs, gm, gw, gf, w1, w2, w3, w4, w5⟩, s3, s4⟩ := id hRs
  by_cases v0 : X8_isWithin_x1 p0 0 1 = 0
  · exact h_conF (h_mono (k_X9_storedOversB hfl p0 p1 hm w3.1 w3.2.1 v0) (Nat.le_of_ble_eq_true rfl) (Nat.le_of_ble_eq_true rfl) (Nat.le_of_ble_eq_true rfl) (Nat.le_of_ble_eq_true rfl)) (fun b u h => ⟨_, WJ_th hA hX hMc hC hRm hRs hO hJ hb (fr_o hA hMc h.2.2) ⟨_, _, _, h.2.1⟩⟩) (fun _ _ h => h)
  obtain ⟨kk, hk1, rfl⟩ := wi_nat (n := 1) (by omega) v0
  have hk2 : kk = 0 ∨ kk = 1 := by omega
  rcases hk2 with rfl | rfl
  · by_cases v1 : X8_isWithin_x1 p1 0 20 = 0
    · have hn : X9_storedOversE0_n1 gs gm p1 = 2 := by
        unfold X9_storedOversE0_n1 X9_storedOversE0_n0
        by_cases z : gs 0 = 0
        · rw [if_pos z]
        · rw [if_neg z, if_pos (has_no w4 v1 z)]
      exact h_conF (h_mono (k_X9_storedOversE0 hfl p1 hm w3.1 w3.2.1 (by rw [hn]; decide)) (Nat.le_of_ble_eq_true rfl) (Nat.le_of_ble_eq_true rfl) (Nat.le_of_ble_eq_true rfl) (Nat.le_of_ble_eq_true rfl)) (fun b u h => ⟨_, WJ_th hA hX hMc hC hRm hRs hO hJ hb (fr_o hA hMc h.2.2) ⟨_, _, _, h.2.1⟩⟩) (fun _ _ h => h)
    · obtain ⟨kx, hkx, rfl⟩ := wi_nat (x := p1) (n := 20) (by omega) v1
      exact h_conF (h_mono (k_X9_storedOvers0 hfl (ix := 0) hm w3.1 w3.2.1 w3.2.2.1 w3.2.2.2 (by omega)) (Nat.le_of_ble_eq_true rfl) (Nat.le_of_ble_eq_true rfl) (Nat.le_of_ble_eq_true rfl) (Nat.le_of_ble_eq_true rfl)) (fun b u h => ⟨_, WJ_th hA hX hMc hC hRm hRs hO hJ hb (fr_o hA hMc h.2.2) ⟨_, _, _, h.2.1⟩⟩) (fun _ _ h => h)
  · by_cases v1 : X8_isWithin_x1 p1 0 20 = 0
    · have hn : X9_storedOversE1_n1 gs gm p1 = 2 := by
        unfold X9_storedOversE1_n1 X9_storedOversE1_n0
        by_cases z : gs 1 = 0
        · rw [if_pos z]
        · rw [if_neg z, if_pos (has_no w5 v1 z)]
      exact h_conF (h_mono (k_X9_storedOversE1 hfl p1 hm w3.1 w3.2.1 (by rw [hn]; decide)) (Nat.le_of_ble_eq_true rfl) (Nat.le_of_ble_eq_true rfl) (Nat.le_of_ble_eq_true rfl) (Nat.le_of_ble_eq_true rfl)) (fun b u h => ⟨_, WJ_th hA hX hMc hC hRm hRs hO hJ hb (fr_o hA hMc h.2.2) ⟨_, _, _, h.2.1⟩⟩) (fun _ _ h => h)
    · obtain ⟨kx, hkx, rfl⟩ := wi_nat (x := p1) (n := 20) (by omega) v1
      exact h_conF (h_mono (k_X9_storedOvers1 hfl (ix := 0) hm w3.1 w3.2.1 w3.2.2.1 w3.2.2.2 (by omega)) (Nat.le_of_ble_eq_true rfl) (Nat.le_of_ble_eq_true rfl) (Nat.le_of_ble_eq_true rfl) (Nat.le_of_ble_eq_true rfl)) (fun b u h => ⟨_, WJ_th hA hX hMc hC hRm hRs hO hJ hb (fr_o hA hMc h.2.2) ⟨_, _, _, h.2.1⟩⟩) (fun _ _ h => h)
