/-! WHAT IS ONLY ASKED FOR -/
section GT9
variable {AD : Nat → Nat} {q q2 : Nat → Option Nat} {cy : Nat → ClassId} {f u : Hf} {k : Nat} {th th' xa xr xk hi : Int32} {o : Nat → Int64} {tl w nS nC : Nat} {cm : Nat → Int32} {cs : Nat → Nat → Nat → Int32} {lo le lfi : Int32} {ge : Nat → Int32} {SS : Nat → Nat → Int32} {g gp gd : Nat → Int32}
theorem fr_o (hA : AOK AD q q2) (hMc : MC AD f th xk (nI w) hi (nI tl) xa xr) (h : hFrL f u [AD 125]) : FR AD f u (fun i => i = 125) := by
  obtain ⟨ps, pl, to, hm⟩ := hMc
  exact FR_mk hA h (fun y hy => ⟨125, rfl, List.mem_singleton.mp hy⟩) (fun i hi9 => by subst hi9; exact nsc_r hm (by decide))
theorem WJ_th (hA : AOK AD q q2) (hX : XC AD f xa xr xk) (_ : MC AD f th xk (nI w) hi (nI tl) xa xr) (hC : CMN AD cy q f cm cs lo le lfi w nS nC ge SS) (hRm : RMN AD cy f g gp gd) (hRs : RST AD cy q2 f hi tl k) (hO : OUT AD cy f o) (hJ : JM cm cs lo le lfi w nS nC ge SS g gp gd) (hb : nS + tl ≤ k) (F : FR AD f u (fun i => i = 125)) (um : MC AD u th' xk (nI w) hi (nI tl) xa xr) : WJ AD cy q q2 (k + 1) th' o u := ⟨hA, xa, xr, xk, hi, tl, w, nS, nC, cm, cs, lo, le, lfi, ge, SS, g, gp, gd, XC_fr F (by omega) hX, um, CMN_fr F (fun i h1 h2 => by omega) (by omega) (by omega) (by omega) hC, RMN_fr F (by omega) (by omega) (by omega) hRm, RST_fr F (fun i h => by omega) (by omega) hRs, OUT_fr F (by omega) hO, hJ, by omega⟩
theorem at_nI {j k : Nat} (hj : j < 100) (hk : k < 100) : ((25 + (11 * nI j)) + nI k).toNatClampNeg = 25 + 11 * j + k := by
  have e : (25 : Int32) + (11 * nI j) + nI k = nI (25 + 11 * j + k) := by
    rw [show (11 : Int32) * nI j = nI (11 * j) from pk_mul 11 j, show (25 : Int32) + nI (11 * j) = nI (25 + 11 * j) from nI_add 25 _, nI_add]
  rw [e]; exact nI_c (by omega)
theorem JM_shr (h : JM cm cs lo le lfi w nS nC ge SS g gp gd) {i : Nat} (hi : i < 4) (g4 : g 4 = nI i) : ∀ ii, ii ≤ i → ∃ lo n, g (25 + 11 * ii + 9) = nI lo ∧ X9_shares_r1 g (nI ii) i = nI n ∧ lo + n ≤ 700 := by
  intro ii hii
  rcases h with ⟨-, -, hg, -⟩ | h
  · have e0 : i = 0 := (nI_eq (by omega) (by omega)).mp (g4.symm.trans (hg 4 (by omega)))
    subst e0
    have e1 : ii = 0 := by omega
    subst e1
    refine ⟨0, 0, hg _ (by omega), ?_, by omega⟩
    unfold X9_shares_r1 X9_shares_x0
    rw [if_pos rfl, show (X9_at_r0 (nI 0) 9).toNatClampNeg = 34 from at_nI (j := 0) (k := 9) (by omega) (by omega), hg 22 (by omega), hg 34 (by omega)]
    rfl
  · have hn5 : nS ≤ 512 := by
      obtain ⟨⟨E, h9, -⟩, -⟩ := h
      exact h9.2.1
    obtain ⟨n, SB, RP, RF, OC, ⟨b1, b2, b3, b4, b5, b6, b7, b8, b9, b10⟩, hs, hp, hz, h22, -⟩ := JL_RR h
    have ein : i = n := (nI_eq (by omega) (by omega)).mp (g4.symm.trans b9)
    subst ein
    have hs3 := hs.2.2
    have g9 : ∀ j, j ≤ i → g (25 + 11 * j + 9) = nI (SB j) := fun j hj => (hp j hj).1.2.2.2.2.2.2.2.2.2.2.1
    have hle : SB ii + RP ii ≤ SB i + RP i := by
      rcases Nat.lt_or_ge ii i with z | z
      · have := SUMS_lt hs z; omega
      · have e : ii = i := by omega
        subst e; exact Nat.le_refl _
    refine ⟨SB ii, RP ii, g9 ii hii, ?_, by omega⟩
    unfold X9_shares_r1 X9_shares_x0
    rw [show (X9_at_r0 (nI ii) 9).toNatClampNeg = 25 + 11 * ii + 9 from at_nI (j := ii) (k := 9) (by omega) (by omega), g9 ii hii]
    by_cases e : nI ii = nI i
    · have e2 := (nI_eq (by omega) (by omega)).mp e
      subst e2
      rw [if_pos rfl, h22]
      exact (nI_sb (a := SB ii + RP ii) (b := SB ii) (by omega)).trans (congrArg nI (by omega))
    · rw [if_neg e]
      have e2 : ii ≠ i := fun z => e (by rw [z])
      have e3 : nI ii + 1 = nI (ii + 1) := nI_add _ 1
      rw [e3, show (X9_at_r0 (nI (ii + 1)) 9).toNatClampNeg = 25 + 11 * (ii + 1) + 9 from at_nI (j := ii + 1) (k := 9) (by omega) (by omega), g9 (ii + 1) (by omega), hs.2.1 ii (by omega)]
      exact (nI_sb (a := SB ii + RP ii) (b := SB ii) (by omega)).trans (congrArg nI (by omega))
theorem JM_wks (h : JM cm cs lo le lfi w nS nC ge SS g gp gd) {i : Nat} (hi : i < 4) (g4 : g 4 = nI i) : ∀ ii, ii ≤ i → ∃ n, g (25 + 11 * ii + 1) = nI n ∧ n ≤ 11 := by
  intro ii hii
  rcases h with ⟨-, -, hg, -⟩ | h
  · exact ⟨0, hg _ (by omega), by omega⟩
  · obtain ⟨n, SB, RP, RF, OC, ⟨b1, b2, b3, b4, b5, b6, b7, b8, b9, b10⟩, hs, hp, -⟩ := JL_RR h
    have ein : i = n := (nI_eq (by omega) (by omega)).mp (g4.symm.trans b9)
    subst ein
    have pn := hp ii hii
    refine ⟨RF ii, ?_, by have := pn.2.2.1; omega⟩
    rw [← pn.2.2.2.2.2.2.2.2, pn.1.1 1 (by omega), Wn_at (by omega)]
theorem isI_nat {i9 : Int32} (h : JM cm cs lo le lfi w nS nC ge SS g gp gd) (hy : ¬ X9_isInnings_x1 g i9 = 0) : ∃ ii, ii < 4 ∧ i9 = nI ii ∧ X9_isInnings_x1 g i9 = 1 := by
  obtain ⟨i, hi, g4⟩ := JM_g4 h
  unfold X9_isInnings_x1 at hy ⊢
  by_cases q1 : g 0 = 1
  · rw [if_pos q1] at hy ⊢
    unfold X9_isInnings_x0 at hy ⊢
    by_cases q2 : X9_isIn_x1 i9 0 (g 4) = 0
    · rw [if_pos q2] at hy; exact absurd rfl hy
    · rw [if_neg q2]
      rw [g4] at q2
      obtain ⟨ii, h1, h2⟩ := wi_nat (x := i9) (n := i) (by omega) q2
      exact ⟨ii, by omega, h2, rfl⟩
  · rw [if_neg q1] at hy; exact absurd rfl hy
theorem isIn_1 {x a b : Int32} (h : ¬ X9_isIn_x1 x a b = 0) : X9_isIn_x1 x a b = 1 := (wi_01 (x := x) (a := a) (b := b)).resolve_left h
end GT9
set_option maxRecDepth 100000 in
theorem kL_innings {l : Launch} (hfl : l.stackTraces = false) {D : va_G} {cy : Nat → ClassId} {f : Hf} {sz : Nat} {AD : Nat → Nat} {q q2 : Nat → Option Nat} {k : Nat} {th : Int32} {o : Nat → Int64} (p0 p1 : Int32) (h : WJ AD cy q q2 k th o f) : hMetH l yL_innings cL_innings 5 (some .int) [((0 : Nat), (10 : Nat), (13 : Nat), (19 : Nat)), ((0 : Nat), (10 : Nat), (17 : Nat), (13 : Nat))] { frames := 9, cells := 64, slots := 600, locals := 170 } D (hTy cy) f sz [.ref (AD 0), .int p0, .int p1, .ref (AD 138)] (hQi (fun r u => ∃ o, WJ AD cy q q2 k th o u) D f sz) hNo := by
  have h0 := h
  obtain ⟨hA, xa, xr, xk, hi, tl, w, nS, nC, cm, cs, lo, le, lfi, ge, SS, g, gp, gd, hX, hMc, hC, hRm, hRs, hO, hJ, hb⟩ := h
  obtain ⟨hM, h1, h2, qs, sq, h3, h4⟩ := id hC
  have K : ∀ sz, hMet l yX8_innings cX8_innings 3 (some .int) { frames := 8, cells := 64, slots := 600, locals := 140 } D (hTy cy) f sz [.ref (AD 0), .int p0, .int p1] (hQi (fun r u => hFrL f u []) D f sz) (fun E u => (E = "java/lang/IndexOutOfBoundsException" ∨ E = "java/lang/IllegalArgumentException") ∧ hFrL f u []) := by
    intro sz
    by_cases v0 : X2_hasBegun_x2 (cm 0) (cm 4) p0 = 0
    · exact h_conI (h_mono (c_X8_inningsN hfl p0 p1 (x := AD 0) (A := AM AD) (b := 0) (b2 := 54) (q := q) hX (AM_ne hA) hM hA.2.1 v0) (Nat.le_of_ble_eq_true rfl) (Nat.le_of_ble_eq_true rfl) (Nat.le_of_ble_eq_true rfl) (Nat.le_of_ble_eq_true rfl)) (fun r u h => h.elim) (fun E u h => ⟨Or.inl (h.1), h.2.2⟩)
    obtain ⟨j, hj, rfl, r0, r1, r2⟩ := JM_beg hJ v0
    by_cases v1 : X8_isWithin_x1 p1 0 7 = 0
    · exact h_conI (h_mono (c_X8_inningsW hfl (nI j) p1 (x := AD 0) (A := AM AD) (b := 0) (b2 := 54) (q := q) hX (AM_ne hA) hM hA.2.1 v0 v1) (Nat.le_of_ble_eq_true rfl) (Nat.le_of_ble_eq_true rfl) (Nat.le_of_ble_eq_true rfl) (Nat.le_of_ble_eq_true rfl)) (fun r u h => h.elim) (fun E u h => ⟨Or.inr (h.1), h.2.2⟩)
    rcases c4 hj with rfl | rfl | rfl | rfl
    · exact h_conI (h_mono (c_X8_innings0 hfl p1 (x := AD 0) (A := AM AD) (b := 0) (b2 := 54) (q := q) hX (AM_ne hA) hM hA.2.1 v0 v1 r0) (Nat.le_of_ble_eq_true rfl) (Nat.le_of_ble_eq_true rfl) (Nat.le_of_ble_eq_true rfl) (Nat.le_of_ble_eq_true rfl)) (fun r u h => h.2.2) (fun _ _ h => False.elim h)
    · exact h_conI (h_mono (c_X8_innings1 hfl p1 (x := AD 0) (A := AM AD) (b := 0) (b2 := 54) (q := q) hX (AM_ne hA) hM hA.2.1 v0 v1 r0) (Nat.le_of_ble_eq_true rfl) (Nat.le_of_ble_eq_true rfl) (Nat.le_of_ble_eq_true rfl) (Nat.le_of_ble_eq_true rfl)) (fun r u h => h.2.2) (fun _ _ h => False.elim h)
    · exact h_conI (h_mono (c_X8_innings2 hfl p1 (x := AD 0) (A := AM AD) (b := 0) (b2 := 54) (q := q) hX (AM_ne hA) hM hA.2.1 v0 v1 r0) (Nat.le_of_ble_eq_true rfl) (Nat.le_of_ble_eq_true rfl) (Nat.le_of_ble_eq_true rfl) (Nat.le_of_ble_eq_true rfl)) (fun r u h => h.2.2) (fun _ _ h => False.elim h)
    · exact h_conI (h_mono (c_X8_innings3 hfl p1 (x := AD 0) (A := AM AD) (b := 0) (b2 := 54) (q := q) hX (AM_ne hA) hM hA.2.1 v0 v1 r0) (Nat.le_of_ble_eq_true rfl) (Nat.le_of_ble_eq_true rfl) (Nat.le_of_ble_eq_true rfl) (Nat.le_of_ble_eq_true rfl)) (fun r u h => h.2.2) (fun _ _ h => False.elim h)
  refine h_conH (w_innings hfl (gl := o) hX K (fun E u h => h.1) (fun v w h => OUT_fr (fr_0 hA h) id hO)) ?_
  intro r u hp
  rcases hp with ⟨-, v9, w9, hf, hu⟩ | ⟨-, -, hf⟩ | ⟨-, -, hf⟩
  · exact ⟨_, WJ_out (WJ_fr0 h0 hf) hu⟩
  · exact ⟨o, WJ_fr0 h0 hf⟩
  · exact ⟨o, WJ_fr0 h0 hf⟩
set_option maxRecDepth 100000 in
theorem kL_batter {l : Launch} (hfl : l.stackTraces = false) {D : va_G} {cy : Nat → ClassId} {f : Hf} {sz : Nat} {AD : Nat → Nat} {q q2 : Nat → Option Nat} {k : Nat} {th : Int32} {o : Nat → Int64} (p0 p1 p2 : Int32) (h : WJ AD cy q q2 k th o f) : hMetH l yL_batter cL_batter 6 (some .int) [((0 : Nat), (12 : Nat), (15 : Nat), (19 : Nat)), ((0 : Nat), (12 : Nat), (19 : Nat), (13 : Nat))] { frames := 9, cells := 64, slots := 600, locals := 170 } D (hTy cy) f sz [.ref (AD 0), .int p0, .int p1, .int p2, .ref (AD 138)] (hQi (fun r u => ∃ o, WJ AD cy q q2 k th o u) D f sz) hNo := by
  have h0 := h
  obtain ⟨hA, xa, xr, xk, hi, tl, w, nS, nC, cm, cs, lo, le, lfi, ge, SS, g, gp, gd, hX, hMc, hC, hRm, hRs, hO, hJ, hb⟩ := h
  obtain ⟨hM, h1, h2, qs, sq, h3, h4⟩ := id hC
  have K : ∀ sz, hMet l yX8_batter cX8_batter 4 (some .int) { frames := 8, cells := 64, slots := 600, locals := 140 } D (hTy cy) f sz [.ref (AD 0), .int p0, .int p1, .int p2] (hQi (fun r u => hFrL f u []) D f sz) (fun E u => (E = "java/lang/IndexOutOfBoundsException" ∨ E = "java/lang/IllegalArgumentException") ∧ hFrL f u []) := by
    intro sz
    by_cases v0 : X2_hasBegun_x2 (cm 0) (cm 4) p0 = 0
    · exact h_conI (h_mono (c_X8_batterN1 hfl p0 p1 p2 (x := AD 0) (A := AM AD) (b := 0) (b2 := 54) (q := q) hX (AM_ne hA) hM hA.2.1 v0) (Nat.le_of_ble_eq_true rfl) (Nat.le_of_ble_eq_true rfl) (Nat.le_of_ble_eq_true rfl) (Nat.le_of_ble_eq_true rfl)) (fun r u h => h.elim) (fun E u h => ⟨Or.inl (h.1), h.2.2⟩)
    obtain ⟨j, hj, rfl, r0, r1, r2⟩ := JM_beg hJ v0
    by_cases v1 : X8_isWithin_x1 p1 0 10 = 0
    · exact h_conI (h_mono (c_X8_batterN2 hfl (nI j) p1 p2 (x := AD 0) (A := AM AD) (b := 0) (b2 := 54) (q := q) hX (AM_ne hA) hM hA.2.1 v0 v1) (Nat.le_of_ble_eq_true rfl) (Nat.le_of_ble_eq_true rfl) (Nat.le_of_ble_eq_true rfl) (Nat.le_of_ble_eq_true rfl)) (fun r u h => h.elim) (fun E u h => ⟨Or.inl (h.1), h.2.2⟩)
    by_cases v2 : X8_isWithin_x1 p2 0 5 = 0
    · exact h_conI (h_mono (c_X8_batterW hfl (nI j) p1 p2 (x := AD 0) (A := AM AD) (b := 0) (b2 := 54) (q := q) hX (AM_ne hA) hM hA.2.1 v0 v1 v2) (Nat.le_of_ble_eq_true rfl) (Nat.le_of_ble_eq_true rfl) (Nat.le_of_ble_eq_true rfl) (Nat.le_of_ble_eq_true rfl)) (fun r u h => h.elim) (fun E u h => ⟨Or.inr (h.1), h.2.2⟩)
    rcases c4 hj with rfl | rfl | rfl | rfl
    · exact h_conI (h_mono (c_X8_batter0 hfl p1 p2 (x := AD 0) (A := AM AD) (b := 0) (b2 := 54) (q := q) hX (AM_ne hA) hM hA.2.1 v0 v1 v2 r1) (Nat.le_of_ble_eq_true rfl) (Nat.le_of_ble_eq_true rfl) (Nat.le_of_ble_eq_true rfl) (Nat.le_of_ble_eq_true rfl)) (fun r u h => h.2.2) (fun _ _ h => False.elim h)
    · exact h_conI (h_mono (c_X8_batter1 hfl p1 p2 (x := AD 0) (A := AM AD) (b := 0) (b2 := 54) (q := q) hX (AM_ne hA) hM hA.2.1 v0 v1 v2 r1) (Nat.le_of_ble_eq_true rfl) (Nat.le_of_ble_eq_true rfl) (Nat.le_of_ble_eq_true rfl) (Nat.le_of_ble_eq_true rfl)) (fun r u h => h.2.2) (fun _ _ h => False.elim h)
    · exact h_conI (h_mono (c_X8_batter2 hfl p1 p2 (x := AD 0) (A := AM AD) (b := 0) (b2 := 54) (q := q) hX (AM_ne hA) hM hA.2.1 v0 v1 v2 r1) (Nat.le_of_ble_eq_true rfl) (Nat.le_of_ble_eq_true rfl) (Nat.le_of_ble_eq_true rfl) (Nat.le_of_ble_eq_true rfl)) (fun r u h => h.2.2) (fun _ _ h => False.elim h)
    · exact h_conI (h_mono (c_X8_batter3 hfl p1 p2 (x := AD 0) (A := AM AD) (b := 0) (b2 := 54) (q := q) hX (AM_ne hA) hM hA.2.1 v0 v1 v2 r1) (Nat.le_of_ble_eq_true rfl) (Nat.le_of_ble_eq_true rfl) (Nat.le_of_ble_eq_true rfl) (Nat.le_of_ble_eq_true rfl)) (fun r u h => h.2.2) (fun _ _ h => False.elim h)
  refine h_conH (w_batter hfl (gl := o) hX K (fun E u h => h.1) (fun v w h => OUT_fr (fr_0 hA h) id hO)) ?_
  intro r u hp
  rcases hp with ⟨-, v9, w9, hf, hu⟩ | ⟨-, -, hf⟩ | ⟨-, -, hf⟩
  · exact ⟨_, WJ_out (WJ_fr0 h0 hf) hu⟩
  · exact ⟨o, WJ_fr0 h0 hf⟩
  · exact ⟨o, WJ_fr0 h0 hf⟩
set_option maxRecDepth 100000 in
theorem kL_bowler {l : Launch} (hfl : l.stackTraces = false) {D : va_G} {cy : Nat → ClassId} {f : Hf} {sz : Nat} {AD : Nat → Nat} {q q2 : Nat → Option Nat} {k : Nat} {th : Int32} {o : Nat → Int64} (p0 p1 p2 : Int32) (h : WJ AD cy q q2 k th o f) : hMetH l yL_bowler cL_bowler 6 (some .int) [((0 : Nat), (12 : Nat), (15 : Nat), (19 : Nat)), ((0 : Nat), (12 : Nat), (19 : Nat), (13 : Nat))] { frames := 9, cells := 64, slots := 600, locals := 170 } D (hTy cy) f sz [.ref (AD 0), .int p0, .int p1, .int p2, .ref (AD 138)] (hQi (fun r u => ∃ o, WJ AD cy q q2 k th o u) D f sz) hNo := by
  have h0 := h
  obtain ⟨hA, xa, xr, xk, hi, tl, w, nS, nC, cm, cs, lo, le, lfi, ge, SS, g, gp, gd, hX, hMc, hC, hRm, hRs, hO, hJ, hb⟩ := h
  obtain ⟨hM, h1, h2, qs, sq, h3, h4⟩ := id hC
  have K : ∀ sz, hMet l yX8_bowler cX8_bowler 4 (some .int) { frames := 8, cells := 64, slots := 600, locals := 140 } D (hTy cy) f sz [.ref (AD 0), .int p0, .int p1, .int p2] (hQi (fun r u => hFrL f u []) D f sz) (fun E u => (E = "java/lang/IndexOutOfBoundsException" ∨ E = "java/lang/IllegalArgumentException") ∧ hFrL f u []) := by
    intro sz
    by_cases v0 : X2_hasBegun_x2 (cm 0) (cm 4) p0 = 0
    · exact h_conI (h_mono (c_X8_bowlerN1 hfl p0 p1 p2 (x := AD 0) (A := AM AD) (b := 0) (b2 := 54) (q := q) hX (AM_ne hA) hM hA.2.1 v0) (Nat.le_of_ble_eq_true rfl) (Nat.le_of_ble_eq_true rfl) (Nat.le_of_ble_eq_true rfl) (Nat.le_of_ble_eq_true rfl)) (fun r u h => h.elim) (fun E u h => ⟨Or.inl (h.1), h.2.2⟩)
    obtain ⟨j, hj, rfl, r0, r1, r2⟩ := JM_beg hJ v0
    by_cases v1 : X8_isWithin_x1 p1 0 10 = 0
    · exact h_conI (h_mono (c_X8_bowlerN2 hfl (nI j) p1 p2 (x := AD 0) (A := AM AD) (b := 0) (b2 := 54) (q := q) hX (AM_ne hA) hM hA.2.1 v0 v1) (Nat.le_of_ble_eq_true rfl) (Nat.le_of_ble_eq_true rfl) (Nat.le_of_ble_eq_true rfl) (Nat.le_of_ble_eq_true rfl)) (fun r u h => h.elim) (fun E u h => ⟨Or.inl (h.1), h.2.2⟩)
    by_cases v2 : X8_isWithin_x1 p2 0 6 = 0
    · exact h_conI (h_mono (c_X8_bowlerW hfl (nI j) p1 p2 (x := AD 0) (A := AM AD) (b := 0) (b2 := 54) (q := q) hX (AM_ne hA) hM hA.2.1 v0 v1 v2) (Nat.le_of_ble_eq_true rfl) (Nat.le_of_ble_eq_true rfl) (Nat.le_of_ble_eq_true rfl) (Nat.le_of_ble_eq_true rfl)) (fun r u h => h.elim) (fun E u h => ⟨Or.inr (h.1), h.2.2⟩)
    rcases c4 hj with rfl | rfl | rfl | rfl
    · exact h_conI (h_mono (c_X8_bowler0 hfl p1 p2 (x := AD 0) (A := AM AD) (b := 0) (b2 := 54) (q := q) hX (AM_ne hA) hM hA.2.1 v0 v1 v2 r2) (Nat.le_of_ble_eq_true rfl) (Nat.le_of_ble_eq_true rfl) (Nat.le_of_ble_eq_true rfl) (Nat.le_of_ble_eq_true rfl)) (fun r u h => h.2.2) (fun _ _ h => False.elim h)
    · exact h_conI (h_mono (c_X8_bowler1 hfl p1 p2 (x := AD 0) (A := AM AD) (b := 0) (b2 := 54) (q := q) hX (AM_ne hA) hM hA.2.1 v0 v1 v2 r2) (Nat.le_of_ble_eq_true rfl) (Nat.le_of_ble_eq_true rfl) (Nat.le_of_ble_eq_true rfl) (Nat.le_of_ble_eq_true rfl)) (fun r u h => h.2.2) (fun _ _ h => False.elim h)
    · exact h_conI (h_mono (c_X8_bowler2 hfl p1 p2 (x := AD 0) (A := AM AD) (b := 0) (b2 := 54) (q := q) hX (AM_ne hA) hM hA.2.1 v0 v1 v2 r2) (Nat.le_of_ble_eq_true rfl) (Nat.le_of_ble_eq_true rfl) (Nat.le_of_ble_eq_true rfl) (Nat.le_of_ble_eq_true rfl)) (fun r u h => h.2.2) (fun _ _ h => False.elim h)
    · exact h_conI (h_mono (c_X8_bowler3 hfl p1 p2 (x := AD 0) (A := AM AD) (b := 0) (b2 := 54) (q := q) hX (AM_ne hA) hM hA.2.1 v0 v1 v2 r2) (Nat.le_of_ble_eq_true rfl) (Nat.le_of_ble_eq_true rfl) (Nat.le_of_ble_eq_true rfl) (Nat.le_of_ble_eq_true rfl)) (fun r u h => h.2.2) (fun _ _ h => False.elim h)
  refine h_conH (w_bowler hfl (gl := o) hX K (fun E u h => h.1) (fun v w h => OUT_fr (fr_0 hA h) id hO)) ?_
  intro r u hp
  rcases hp with ⟨-, v9, w9, hf, hu⟩ | ⟨-, -, hf⟩ | ⟨-, -, hf⟩
  · exact ⟨_, WJ_out (WJ_fr0 h0 hf) hu⟩
  · exact ⟨o, WJ_fr0 h0 hf⟩
  · exact ⟨o, WJ_fr0 h0 hf⟩
set_option maxRecDepth 100000 in
theorem kL_partnership {l : Launch} (hfl : l.stackTraces = false) {D : va_G} {cy : Nat → ClassId} {f : Hf} {sz : Nat} {AD : Nat → Nat} {q q2 : Nat → Option Nat} {k : Nat} {th : Int32} {o : Nat → Int64} (p0 p1 p2 : Int32) (h : WJ AD cy q q2 k th o f) : hMetH l yL_partnership cL_partnership 6 (some .int) [((0 : Nat), (12 : Nat), (15 : Nat), (19 : Nat)), ((0 : Nat), (12 : Nat), (19 : Nat), (57 : Nat)), ((0 : Nat), (12 : Nat), (23 : Nat), (13 : Nat))] { frames := 9, cells := 64, slots := 600, locals := 170 } D (hTy cy) f sz [.ref (AD 0), .int p0, .int p1, .int p2, .ref (AD 138)] (hQi (fun r u => ∃ o, WJ AD cy q q2 k th o u) D f sz) hNo := by
  have h0 := h
  obtain ⟨hA, xa, xr, xk, hi, tl, w, nS, nC, cm, cs, lo, le, lfi, ge, SS, g, gp, gd, hX, hMc, hC, hRm, hRs, hO, hJ, hb⟩ := h
  obtain ⟨hM, h1, h2, qs, sq, h3, h4⟩ := id hC
  have K : ∀ sz, hMet l yX8_partnership cX8_partnership 4 (some .int) { frames := 8, cells := 64, slots := 600, locals := 140 } D (hTy cy) f sz [.ref (AD 0), .int p0, .int p1, .int p2] (hQi (fun r u => hFrL f u []) D f sz) (fun E u => (E = "java/lang/IndexOutOfBoundsException" ∨ E = "java/util/NoSuchElementException" ∨ E = "java/lang/IllegalArgumentException") ∧ hFrL f u []) := by
    intro sz
    by_cases v0 : X2_hasBegun_x2 (cm 0) (cm 4) p0 = 0
    · exact h_conI (h_mono (c_X8_partnershipN hfl p0 p1 p2 (x := AD 0) (A := AM AD) (b := 0) (b2 := 54) (q := q) hX (AM_ne hA) hM hA.2.1 v0) (Nat.le_of_ble_eq_true rfl) (Nat.le_of_ble_eq_true rfl) (Nat.le_of_ble_eq_true rfl) (Nat.le_of_ble_eq_true rfl)) (fun r u h => h.elim) (fun E u h => ⟨Or.inl (h.1), h.2.2⟩)
    obtain ⟨j, hj, rfl, r0, r1, r2⟩ := JM_beg hJ v0
    rcases c4 hj with rfl | rfl | rfl | rfl
    · by_cases w0 : X6_hasRow_x1 (cs 0 7 3) p1 = 0
      · exact h_conI (h_mono (c_X8_partnershipK0 hfl p1 p2 (x := AD 0) (A := AM AD) (b := 0) (b2 := 54) (q := q) hX (AM_ne hA) hM hA.2.1 v0 w0) (Nat.le_of_ble_eq_true rfl) (Nat.le_of_ble_eq_true rfl) (Nat.le_of_ble_eq_true rfl) (Nat.le_of_ble_eq_true rfl)) (fun r u h => h.elim) (fun E u h => ⟨Or.inr (Or.inl (h.1)), h.2.2⟩)
      by_cases w1 : X6_hasColumn_x1 8 p2 = 0
      · exact h_conI (h_mono (c_X8_partnershipW0 hfl p1 p2 (x := AD 0) (A := AM AD) (b := 0) (b2 := 54) (q := q) hX (AM_ne hA) hM hA.2.1 v0 w0 w1) (Nat.le_of_ble_eq_true rfl) (Nat.le_of_ble_eq_true rfl) (Nat.le_of_ble_eq_true rfl) (Nat.le_of_ble_eq_true rfl)) (fun r u h => h.elim) (fun E u h => ⟨Or.inr (Or.inr (h.1)), h.2.2⟩)
      exact h_conI (h_mono (c_X8_partnershipY0 hfl p1 p2 (x := AD 0) (A := AM AD) (b := 0) (b2 := 54) (q := q) hX (AM_ne hA) hM hA.2.1 v0 w0 w1) (Nat.le_of_ble_eq_true rfl) (Nat.le_of_ble_eq_true rfl) (Nat.le_of_ble_eq_true rfl) (Nat.le_of_ble_eq_true rfl)) (fun r u h => h.2.2) (fun _ _ h => False.elim h)
    · by_cases w0 : X6_hasRow_x1 (cs 1 7 3) p1 = 0
      · exact h_conI (h_mono (c_X8_partnershipK1 hfl p1 p2 (x := AD 0) (A := AM AD) (b := 0) (b2 := 54) (q := q) hX (AM_ne hA) hM hA.2.1 v0 w0) (Nat.le_of_ble_eq_true rfl) (Nat.le_of_ble_eq_true rfl) (Nat.le_of_ble_eq_true rfl) (Nat.le_of_ble_eq_true rfl)) (fun r u h => h.elim) (fun E u h => ⟨Or.inr (Or.inl (h.1)), h.2.2⟩)
      by_cases w1 : X6_hasColumn_x1 8 p2 = 0
      · exact h_conI (h_mono (c_X8_partnershipW1 hfl p1 p2 (x := AD 0) (A := AM AD) (b := 0) (b2 := 54) (q := q) hX (AM_ne hA) hM hA.2.1 v0 w0 w1) (Nat.le_of_ble_eq_true rfl) (Nat.le_of_ble_eq_true rfl) (Nat.le_of_ble_eq_true rfl) (Nat.le_of_ble_eq_true rfl)) (fun r u h => h.elim) (fun E u h => ⟨Or.inr (Or.inr (h.1)), h.2.2⟩)
      exact h_conI (h_mono (c_X8_partnershipY1 hfl p1 p2 (x := AD 0) (A := AM AD) (b := 0) (b2 := 54) (q := q) hX (AM_ne hA) hM hA.2.1 v0 w0 w1) (Nat.le_of_ble_eq_true rfl) (Nat.le_of_ble_eq_true rfl) (Nat.le_of_ble_eq_true rfl) (Nat.le_of_ble_eq_true rfl)) (fun r u h => h.2.2) (fun _ _ h => False.elim h)
    · by_cases w0 : X6_hasRow_x1 (cs 2 7 3) p1 = 0
      · exact h_conI (h_mono (c_X8_partnershipK2 hfl p1 p2 (x := AD 0) (A := AM AD) (b := 0) (b2 := 54) (q := q) hX (AM_ne hA) hM hA.2.1 v0 w0) (Nat.le_of_ble_eq_true rfl) (Nat.le_of_ble_eq_true rfl) (Nat.le_of_ble_eq_true rfl) (Nat.le_of_ble_eq_true rfl)) (fun r u h => h.elim) (fun E u h => ⟨Or.inr (Or.inl (h.1)), h.2.2⟩)
      by_cases w1 : X6_hasColumn_x1 8 p2 = 0
      · exact h_conI (h_mono (c_X8_partnershipW2 hfl p1 p2 (x := AD 0) (A := AM AD) (b := 0) (b2 := 54) (q := q) hX (AM_ne hA) hM hA.2.1 v0 w0 w1) (Nat.le_of_ble_eq_true rfl) (Nat.le_of_ble_eq_true rfl) (Nat.le_of_ble_eq_true rfl) (Nat.le_of_ble_eq_true rfl)) (fun r u h => h.elim) (fun E u h => ⟨Or.inr (Or.inr (h.1)), h.2.2⟩)
      exact h_conI (h_mono (c_X8_partnershipY2 hfl p1 p2 (x := AD 0) (A := AM AD) (b := 0) (b2 := 54) (q := q) hX (AM_ne hA) hM hA.2.1 v0 w0 w1) (Nat.le_of_ble_eq_true rfl) (Nat.le_of_ble_eq_true rfl) (Nat.le_of_ble_eq_true rfl) (Nat.le_of_ble_eq_true rfl)) (fun r u h => h.2.2) (fun _ _ h => False.elim h)
    · by_cases w0 : X6_hasRow_x1 (cs 3 7 3) p1 = 0
      · exact h_conI (h_mono (c_X8_partnershipK3 hfl p1 p2 (x := AD 0) (A := AM AD) (b := 0) (b2 := 54) (q := q) hX (AM_ne hA) hM hA.2.1 v0 w0) (Nat.le_of_ble_eq_true rfl) (Nat.le_of_ble_eq_true rfl) (Nat.le_of_ble_eq_true rfl) (Nat.le_of_ble_eq_true rfl)) (fun r u h => h.elim) (fun E u h => ⟨Or.inr (Or.inl (h.1)), h.2.2⟩)
      by_cases w1 : X6_hasColumn_x1 8 p2 = 0
      · exact h_conI (h_mono (c_X8_partnershipW3 hfl p1 p2 (x := AD 0) (A := AM AD) (b := 0) (b2 := 54) (q := q) hX (AM_ne hA) hM hA.2.1 v0 w0 w1) (Nat.le_of_ble_eq_true rfl) (Nat.le_of_ble_eq_true rfl) (Nat.le_of_ble_eq_true rfl) (Nat.le_of_ble_eq_true rfl)) (fun r u h => h.elim) (fun E u h => ⟨Or.inr (Or.inr (h.1)), h.2.2⟩)
      exact h_conI (h_mono (c_X8_partnershipY3 hfl p1 p2 (x := AD 0) (A := AM AD) (b := 0) (b2 := 54) (q := q) hX (AM_ne hA) hM hA.2.1 v0 w0 w1) (Nat.le_of_ble_eq_true rfl) (Nat.le_of_ble_eq_true rfl) (Nat.le_of_ble_eq_true rfl) (Nat.le_of_ble_eq_true rfl)) (fun r u h => h.2.2) (fun _ _ h => False.elim h)
  refine h_conH (w_partnership hfl (gl := o) hX K (fun E u h => h.1) (fun v w h => OUT_fr (fr_0 hA h) id hO)) ?_
  intro r u hp
  rcases hp with ⟨-, v9, w9, hf, hu⟩ | ⟨-, -, hf⟩ | ⟨-, -, hf⟩ | ⟨-, -, hf⟩
  · exact ⟨_, WJ_out (WJ_fr0 h0 hf) hu⟩
  · exact ⟨o, WJ_fr0 h0 hf⟩
  · exact ⟨o, WJ_fr0 h0 hf⟩
  · exact ⟨o, WJ_fr0 h0 hf⟩
set_option maxRecDepth 100000 in
theorem kL_fall {l : Launch} (hfl : l.stackTraces = false) {D : va_G} {cy : Nat → ClassId} {f : Hf} {sz : Nat} {AD : Nat → Nat} {q q2 : Nat → Option Nat} {k : Nat} {th : Int32} {o : Nat → Int64} (p0 p1 p2 : Int32) (h : WJ AD cy q q2 k th o f) : hMetH l yL_fall cL_fall 6 (some .int) [((0 : Nat), (12 : Nat), (15 : Nat), (19 : Nat)), ((0 : Nat), (12 : Nat), (19 : Nat), (57 : Nat)), ((0 : Nat), (12 : Nat), (23 : Nat), (13 : Nat))] { frames := 9, cells := 64, slots := 600, locals := 170 } D (hTy cy) f sz [.ref (AD 0), .int p0, .int p1, .int p2, .ref (AD 138)] (hQi (fun r u => ∃ o, WJ AD cy q q2 k th o u) D f sz) hNo := by
  have h0 := h
  obtain ⟨hA, xa, xr, xk, hi, tl, w, nS, nC, cm, cs, lo, le, lfi, ge, SS, g, gp, gd, hX, hMc, hC, hRm, hRs, hO, hJ, hb⟩ := h
  obtain ⟨hM, h1, h2, qs, sq, h3, h4⟩ := id hC
  have K : ∀ sz, hMet l yX8_fall cX8_fall 4 (some .int) { frames := 8, cells := 64, slots := 600, locals := 140 } D (hTy cy) f sz [.ref (AD 0), .int p0, .int p1, .int p2] (hQi (fun r u => hFrL f u []) D f sz) (fun E u => (E = "java/lang/IndexOutOfBoundsException" ∨ E = "java/util/NoSuchElementException" ∨ E = "java/lang/IllegalArgumentException") ∧ hFrL f u []) := by
    intro sz
    by_cases v0 : X2_hasBegun_x2 (cm 0) (cm 4) p0 = 0
    · exact h_conI (h_mono (c_X8_fallN hfl p0 p1 p2 (x := AD 0) (A := AM AD) (b := 0) (b2 := 54) (q := q) hX (AM_ne hA) hM hA.2.1 v0) (Nat.le_of_ble_eq_true rfl) (Nat.le_of_ble_eq_true rfl) (Nat.le_of_ble_eq_true rfl) (Nat.le_of_ble_eq_true rfl)) (fun r u h => h.elim) (fun E u h => ⟨Or.inl (h.1), h.2.2⟩)
    obtain ⟨j, hj, rfl, r0, r1, r2⟩ := JM_beg hJ v0
    rcases c4 hj with rfl | rfl | rfl | rfl
    · by_cases w0 : X6_hasRow_x1 (cs 0 7 4) p1 = 0
      · exact h_conI (h_mono (c_X8_fallK0 hfl p1 p2 (x := AD 0) (A := AM AD) (b := 0) (b2 := 54) (q := q) hX (AM_ne hA) hM hA.2.1 v0 w0) (Nat.le_of_ble_eq_true rfl) (Nat.le_of_ble_eq_true rfl) (Nat.le_of_ble_eq_true rfl) (Nat.le_of_ble_eq_true rfl)) (fun r u h => h.elim) (fun E u h => ⟨Or.inr (Or.inl (h.1)), h.2.2⟩)
      by_cases w1 : X6_hasColumn_x1 3 p2 = 0
      · exact h_conI (h_mono (c_X8_fallW0 hfl p1 p2 (x := AD 0) (A := AM AD) (b := 0) (b2 := 54) (q := q) hX (AM_ne hA) hM hA.2.1 v0 w0 w1) (Nat.le_of_ble_eq_true rfl) (Nat.le_of_ble_eq_true rfl) (Nat.le_of_ble_eq_true rfl) (Nat.le_of_ble_eq_true rfl)) (fun r u h => h.elim) (fun E u h => ⟨Or.inr (Or.inr (h.1)), h.2.2⟩)
      exact h_conI (h_mono (c_X8_fallY0 hfl p1 p2 (x := AD 0) (A := AM AD) (b := 0) (b2 := 54) (q := q) hX (AM_ne hA) hM hA.2.1 v0 w0 w1) (Nat.le_of_ble_eq_true rfl) (Nat.le_of_ble_eq_true rfl) (Nat.le_of_ble_eq_true rfl) (Nat.le_of_ble_eq_true rfl)) (fun r u h => h.2.2) (fun _ _ h => False.elim h)
    · by_cases w0 : X6_hasRow_x1 (cs 1 7 4) p1 = 0
      · exact h_conI (h_mono (c_X8_fallK1 hfl p1 p2 (x := AD 0) (A := AM AD) (b := 0) (b2 := 54) (q := q) hX (AM_ne hA) hM hA.2.1 v0 w0) (Nat.le_of_ble_eq_true rfl) (Nat.le_of_ble_eq_true rfl) (Nat.le_of_ble_eq_true rfl) (Nat.le_of_ble_eq_true rfl)) (fun r u h => h.elim) (fun E u h => ⟨Or.inr (Or.inl (h.1)), h.2.2⟩)
      by_cases w1 : X6_hasColumn_x1 3 p2 = 0
      · exact h_conI (h_mono (c_X8_fallW1 hfl p1 p2 (x := AD 0) (A := AM AD) (b := 0) (b2 := 54) (q := q) hX (AM_ne hA) hM hA.2.1 v0 w0 w1) (Nat.le_of_ble_eq_true rfl) (Nat.le_of_ble_eq_true rfl) (Nat.le_of_ble_eq_true rfl) (Nat.le_of_ble_eq_true rfl)) (fun r u h => h.elim) (fun E u h => ⟨Or.inr (Or.inr (h.1)), h.2.2⟩)
      exact h_conI (h_mono (c_X8_fallY1 hfl p1 p2 (x := AD 0) (A := AM AD) (b := 0) (b2 := 54) (q := q) hX (AM_ne hA) hM hA.2.1 v0 w0 w1) (Nat.le_of_ble_eq_true rfl) (Nat.le_of_ble_eq_true rfl) (Nat.le_of_ble_eq_true rfl) (Nat.le_of_ble_eq_true rfl)) (fun r u h => h.2.2) (fun _ _ h => False.elim h)
    · by_cases w0 : X6_hasRow_x1 (cs 2 7 4) p1 = 0
      · exact h_conI (h_mono (c_X8_fallK2 hfl p1 p2 (x := AD 0) (A := AM AD) (b := 0) (b2 := 54) (q := q) hX (AM_ne hA) hM hA.2.1 v0 w0) (Nat.le_of_ble_eq_true rfl) (Nat.le_of_ble_eq_true rfl) (Nat.le_of_ble_eq_true rfl) (Nat.le_of_ble_eq_true rfl)) (fun r u h => h.elim) (fun E u h => ⟨Or.inr (Or.inl (h.1)), h.2.2⟩)
      by_cases w1 : X6_hasColumn_x1 3 p2 = 0
      · exact h_conI (h_mono (c_X8_fallW2 hfl p1 p2 (x := AD 0) (A := AM AD) (b := 0) (b2 := 54) (q := q) hX (AM_ne hA) hM hA.2.1 v0 w0 w1) (Nat.le_of_ble_eq_true rfl) (Nat.le_of_ble_eq_true rfl) (Nat.le_of_ble_eq_true rfl) (Nat.le_of_ble_eq_true rfl)) (fun r u h => h.elim) (fun E u h => ⟨Or.inr (Or.inr (h.1)), h.2.2⟩)
      exact h_conI (h_mono (c_X8_fallY2 hfl p1 p2 (x := AD 0) (A := AM AD) (b := 0) (b2 := 54) (q := q) hX (AM_ne hA) hM hA.2.1 v0 w0 w1) (Nat.le_of_ble_eq_true rfl) (Nat.le_of_ble_eq_true rfl) (Nat.le_of_ble_eq_true rfl) (Nat.le_of_ble_eq_true rfl)) (fun r u h => h.2.2) (fun _ _ h => False.elim h)
    · by_cases w0 : X6_hasRow_x1 (cs 3 7 4) p1 = 0
      · exact h_conI (h_mono (c_X8_fallK3 hfl p1 p2 (x := AD 0) (A := AM AD) (b := 0) (b2 := 54) (q := q) hX (AM_ne hA) hM hA.2.1 v0 w0) (Nat.le_of_ble_eq_true rfl) (Nat.le_of_ble_eq_true rfl) (Nat.le_of_ble_eq_true rfl) (Nat.le_of_ble_eq_true rfl)) (fun r u h => h.elim) (fun E u h => ⟨Or.inr (Or.inl (h.1)), h.2.2⟩)
      by_cases w1 : X6_hasColumn_x1 3 p2 = 0
      · exact h_conI (h_mono (c_X8_fallW3 hfl p1 p2 (x := AD 0) (A := AM AD) (b := 0) (b2 := 54) (q := q) hX (AM_ne hA) hM hA.2.1 v0 w0 w1) (Nat.le_of_ble_eq_true rfl) (Nat.le_of_ble_eq_true rfl) (Nat.le_of_ble_eq_true rfl) (Nat.le_of_ble_eq_true rfl)) (fun r u h => h.elim) (fun E u h => ⟨Or.inr (Or.inr (h.1)), h.2.2⟩)
      exact h_conI (h_mono (c_X8_fallY3 hfl p1 p2 (x := AD 0) (A := AM AD) (b := 0) (b2 := 54) (q := q) hX (AM_ne hA) hM hA.2.1 v0 w0 w1) (Nat.le_of_ble_eq_true rfl) (Nat.le_of_ble_eq_true rfl) (Nat.le_of_ble_eq_true rfl) (Nat.le_of_ble_eq_true rfl)) (fun r u h => h.2.2) (fun _ _ h => False.elim h)
  refine h_conH (w_fall hfl (gl := o) hX K (fun E u h => h.1) (fun v w h => OUT_fr (fr_0 hA h) id hO)) ?_
  intro r u hp
  rcases hp with ⟨-, v9, w9, hf, hu⟩ | ⟨-, -, hf⟩ | ⟨-, -, hf⟩ | ⟨-, -, hf⟩
  · exact ⟨_, WJ_out (WJ_fr0 h0 hf) hu⟩
  · exact ⟨o, WJ_fr0 h0 hf⟩
  · exact ⟨o, WJ_fr0 h0 hf⟩
  · exact ⟨o, WJ_fr0 h0 hf⟩
set_option maxRecDepth 100000 in
theorem kL_runRate {l : Launch} (hfl : l.stackTraces = false) {D : va_G} {cy : Nat → ClassId} {f : Hf} {sz : Nat} {AD : Nat → Nat} {q q2 : Nat → Option Nat} {k : Nat} {th : Int32} {o : Nat → Int64} (p0 : Int32) (h : WJ AD cy q q2 k th o f) : hMetH l yL_runRate cL_runRate 4 (some .int) [((0 : Nat), (8 : Nat), (11 : Nat), (19 : Nat)), ((0 : Nat), (8 : Nat), (14 : Nat), (89 : Nat))] { frames := 9, cells := 64, slots := 600, locals := 170 } D (hTy cy) f sz [.ref (AD 0), .int p0, .ref (AD 139)] (hQi (fun r u => ∃ o, WJ AD cy q q2 k th o u) D f sz) hNo := by
  have h0 := h
  obtain ⟨hA, xa, xr, xk, hi, tl, w, nS, nC, cm, cs, lo, le, lfi, ge, SS, g, gp, gd, hX, hMc, hC, hRm, hRs, hO, hJ, hb⟩ := h
  obtain ⟨hM, h1, h2, qs, sq, h3, h4⟩ := id hC
  have K : ∀ sz, hMet l yX8_runRate cX8_runRate 3 (some .double) { frames := 8, cells := 64, slots := 600, locals := 140 } D (hTy cy) f sz [.ref (AD 0), .int p0] (hQd (fun r u => hFrL f u []) D f sz) (fun E u => (E = "java/lang/IndexOutOfBoundsException" ∨ E = "java/lang/ArithmeticException") ∧ hFrL f u []) := by
    intro sz
    by_cases v0 : X2_hasBegun_x2 (cm 0) (cm 4) p0 = 0
    · exact h_conD (h_mono (c_X8_runRateN hfl p0 (x := AD 0) (A := AM AD) (b := 0) (b2 := 54) (q := q) hX (AM_ne hA) hM hA.2.1 v0) (Nat.le_of_ble_eq_true rfl) (Nat.le_of_ble_eq_true rfl) (Nat.le_of_ble_eq_true rfl) (Nat.le_of_ble_eq_true rfl)) (fun r u h => h.elim) (fun E u h => ⟨Or.inl (h.1), h.2.2⟩)
    obtain ⟨j, hj, rfl, r0, r1, r2⟩ := JM_beg hJ v0
    rcases c4 hj with rfl | rfl | rfl | rfl
    · by_cases w0 : tget 8 1 8 (cs 0 0) 0 2 = 0
      · exact h_conD (h_mono (c_X8_runRateZ0 hfl  (x := AD 0) (A := AM AD) (b := 0) (b2 := 54) (q := q) hX (AM_ne hA) hM hA.2.1 v0 r0 w0) (Nat.le_of_ble_eq_true rfl) (Nat.le_of_ble_eq_true rfl) (Nat.le_of_ble_eq_true rfl) (Nat.le_of_ble_eq_true rfl)) (fun r u h => h.elim) (fun E u h => ⟨Or.inr (h.1), h.2.2⟩)
      exact h_conD (h_mono (c_X8_runRateY0 hfl  (x := AD 0) (A := AM AD) (b := 0) (b2 := 54) (q := q) hX (AM_ne hA) hM hA.2.1 v0 r0 w0) (Nat.le_of_ble_eq_true rfl) (Nat.le_of_ble_eq_true rfl) (Nat.le_of_ble_eq_true rfl) (Nat.le_of_ble_eq_true rfl)) (fun r u h => h.2.2) (fun _ _ h => False.elim h)
    · by_cases w0 : tget 8 1 8 (cs 1 0) 0 2 = 0
      · exact h_conD (h_mono (c_X8_runRateZ1 hfl  (x := AD 0) (A := AM AD) (b := 0) (b2 := 54) (q := q) hX (AM_ne hA) hM hA.2.1 v0 r0 w0) (Nat.le_of_ble_eq_true rfl) (Nat.le_of_ble_eq_true rfl) (Nat.le_of_ble_eq_true rfl) (Nat.le_of_ble_eq_true rfl)) (fun r u h => h.elim) (fun E u h => ⟨Or.inr (h.1), h.2.2⟩)
      exact h_conD (h_mono (c_X8_runRateY1 hfl  (x := AD 0) (A := AM AD) (b := 0) (b2 := 54) (q := q) hX (AM_ne hA) hM hA.2.1 v0 r0 w0) (Nat.le_of_ble_eq_true rfl) (Nat.le_of_ble_eq_true rfl) (Nat.le_of_ble_eq_true rfl) (Nat.le_of_ble_eq_true rfl)) (fun r u h => h.2.2) (fun _ _ h => False.elim h)
    · by_cases w0 : tget 8 1 8 (cs 2 0) 0 2 = 0
      · exact h_conD (h_mono (c_X8_runRateZ2 hfl  (x := AD 0) (A := AM AD) (b := 0) (b2 := 54) (q := q) hX (AM_ne hA) hM hA.2.1 v0 r0 w0) (Nat.le_of_ble_eq_true rfl) (Nat.le_of_ble_eq_true rfl) (Nat.le_of_ble_eq_true rfl) (Nat.le_of_ble_eq_true rfl)) (fun r u h => h.elim) (fun E u h => ⟨Or.inr (h.1), h.2.2⟩)
      exact h_conD (h_mono (c_X8_runRateY2 hfl  (x := AD 0) (A := AM AD) (b := 0) (b2 := 54) (q := q) hX (AM_ne hA) hM hA.2.1 v0 r0 w0) (Nat.le_of_ble_eq_true rfl) (Nat.le_of_ble_eq_true rfl) (Nat.le_of_ble_eq_true rfl) (Nat.le_of_ble_eq_true rfl)) (fun r u h => h.2.2) (fun _ _ h => False.elim h)
    · by_cases w0 : tget 8 1 8 (cs 3 0) 0 2 = 0
      · exact h_conD (h_mono (c_X8_runRateZ3 hfl  (x := AD 0) (A := AM AD) (b := 0) (b2 := 54) (q := q) hX (AM_ne hA) hM hA.2.1 v0 r0 w0) (Nat.le_of_ble_eq_true rfl) (Nat.le_of_ble_eq_true rfl) (Nat.le_of_ble_eq_true rfl) (Nat.le_of_ble_eq_true rfl)) (fun r u h => h.elim) (fun E u h => ⟨Or.inr (h.1), h.2.2⟩)
      exact h_conD (h_mono (c_X8_runRateY3 hfl  (x := AD 0) (A := AM AD) (b := 0) (b2 := 54) (q := q) hX (AM_ne hA) hM hA.2.1 v0 r0 w0) (Nat.le_of_ble_eq_true rfl) (Nat.le_of_ble_eq_true rfl) (Nat.le_of_ble_eq_true rfl) (Nat.le_of_ble_eq_true rfl)) (fun r u h => h.2.2) (fun _ _ h => False.elim h)
  obtain ⟨od, hod⟩ := hRs.2.2.2.2
  refine h_conH (w_runRate hfl (gl := od) hX K (fun E u h => h.1) (fun v w h => OUD_fr (fr_0 hA h) id hod)) ?_
  intro r u hp
  rcases hp with ⟨-, v9, w9, hf, hu⟩ | ⟨-, -, hf⟩ | ⟨-, -, hf⟩
  · exact ⟨o, WJ_outD (WJ_fr0 h0 hf) (OUD_fr (fr_0 hA hf) id hod) hu⟩
  · exact ⟨o, WJ_fr0 h0 hf⟩
  · exact ⟨o, WJ_fr0 h0 hf⟩
set_option maxRecDepth 100000 in
theorem kL_strikeRate {l : Launch} (hfl : l.stackTraces = false) {D : va_G} {cy : Nat → ClassId} {f : Hf} {sz : Nat} {AD : Nat → Nat} {q q2 : Nat → Option Nat} {k : Nat} {th : Int32} {o : Nat → Int64} (p0 p1 : Int32) (h : WJ AD cy q q2 k th o f) : hMetH l yL_strikeRate cL_strikeRate 5 (some .int) [((0 : Nat), (10 : Nat), (13 : Nat), (19 : Nat)), ((0 : Nat), (10 : Nat), (17 : Nat), (89 : Nat))] { frames := 9, cells := 64, slots := 600, locals := 170 } D (hTy cy) f sz [.ref (AD 0), .int p0, .int p1, .ref (AD 139)] (hQi (fun r u => ∃ o, WJ AD cy q q2 k th o u) D f sz) hNo := by
  have h0 := h
  obtain ⟨hA, xa, xr, xk, hi, tl, w, nS, nC, cm, cs, lo, le, lfi, ge, SS, g, gp, gd, hX, hMc, hC, hRm, hRs, hO, hJ, hb⟩ := h
  obtain ⟨hM, h1, h2, qs, sq, h3, h4⟩ := id hC
  have K : ∀ sz, hMet l yX8_strikeRate cX8_strikeRate 5 (some .float) { frames := 8, cells := 64, slots := 600, locals := 140 } D (hTy cy) f sz [.ref (AD 0), .int p0, .int p1] (hQf (fun r u => hFrL f u [] ∧ vf_n64 (FP.f2d r)) D f sz) (fun E u => (E = "java/lang/IndexOutOfBoundsException" ∨ E = "java/lang/ArithmeticException") ∧ hFrL f u []) := by
    intro sz
    by_cases v0 : X2_hasBegun_x2 (cm 0) (cm 4) p0 = 0
    · exact h_conF (h_mono (c_X8_strikeRateN1 hfl p0 p1 (x := AD 0) (A := AM AD) (b := 0) (b2 := 54) (q := q) hX (AM_ne hA) hM hA.2.1 v0) (Nat.le_of_ble_eq_true rfl) (Nat.le_of_ble_eq_true rfl) (Nat.le_of_ble_eq_true rfl) (Nat.le_of_ble_eq_true rfl)) (fun r u h => h.elim) (fun E u h => ⟨Or.inl (h.1), h.2.2⟩)
    obtain ⟨j, hj, rfl, r0, r1, r2⟩ := JM_beg hJ v0
    by_cases v1 : X8_isWithin_x1 p1 0 10 = 0
    · exact h_conF (h_mono (c_X8_strikeRateN2 hfl (nI j) p1 (x := AD 0) (A := AM AD) (b := 0) (b2 := 54) (q := q) hX (AM_ne hA) hM hA.2.1 v0 v1) (Nat.le_of_ble_eq_true rfl) (Nat.le_of_ble_eq_true rfl) (Nat.le_of_ble_eq_true rfl) (Nat.le_of_ble_eq_true rfl)) (fun r u h => h.elim) (fun E u h => ⟨Or.inl (h.1), h.2.2⟩)
    rcases c4 hj with rfl | rfl | rfl | rfl
    · by_cases w0 : tget 6 11 66 (cs 0 1) p1 1 = 0
      · exact h_conF (h_mono (c_X8_strikeRateZ0 hfl p1 (x := AD 0) (A := AM AD) (b := 0) (b2 := 54) (q := q) hX (AM_ne hA) hM hA.2.1 v0 v1 r1 w0) (Nat.le_of_ble_eq_true rfl) (Nat.le_of_ble_eq_true rfl) (Nat.le_of_ble_eq_true rfl) (Nat.le_of_ble_eq_true rfl)) (fun r u h => h.elim) (fun E u h => ⟨Or.inr (h.1), h.2.2⟩)
      exact h_conF (h_mono (c_X8_strikeRateY0 hfl p1 (x := AD 0) (A := AM AD) (b := 0) (b2 := 54) (q := q) hX (AM_ne hA) hM hA.2.1 v0 v1 r1 w0) (Nat.le_of_ble_eq_true rfl) (Nat.le_of_ble_eq_true rfl) (Nat.le_of_ble_eq_true rfl) (Nat.le_of_ble_eq_true rfl)) (fun r u h => ⟨h.2.2, by rw [h.1]; exact f2d_n (fdiv_n _ _ w0)⟩) (fun _ _ h => False.elim h)
    · by_cases w0 : tget 6 11 66 (cs 1 1) p1 1 = 0
      · exact h_conF (h_mono (c_X8_strikeRateZ1 hfl p1 (x := AD 0) (A := AM AD) (b := 0) (b2 := 54) (q := q) hX (AM_ne hA) hM hA.2.1 v0 v1 r1 w0) (Nat.le_of_ble_eq_true rfl) (Nat.le_of_ble_eq_true rfl) (Nat.le_of_ble_eq_true rfl) (Nat.le_of_ble_eq_true rfl)) (fun r u h => h.elim) (fun E u h => ⟨Or.inr (h.1), h.2.2⟩)
      exact h_conF (h_mono (c_X8_strikeRateY1 hfl p1 (x := AD 0) (A := AM AD) (b := 0) (b2 := 54) (q := q) hX (AM_ne hA) hM hA.2.1 v0 v1 r1 w0) (Nat.le_of_ble_eq_true rfl) (Nat.le_of_ble_eq_true rfl) (Nat.le_of_ble_eq_true rfl) (Nat.le_of_ble_eq_true rfl)) (fun r u h => ⟨h.2.2, by rw [h.1]; exact f2d_n (fdiv_n _ _ w0)⟩) (fun _ _ h => False.elim h)
    · by_cases w0 : tget 6 11 66 (cs 2 1) p1 1 = 0
      · exact h_conF (h_mono (c_X8_strikeRateZ2 hfl p1 (x := AD 0) (A := AM AD) (b := 0) (b2 := 54) (q := q) hX (AM_ne hA) hM hA.2.1 v0 v1 r1 w0) (Nat.le_of_ble_eq_true rfl) (Nat.le_of_ble_eq_true rfl) (Nat.le_of_ble_eq_true rfl) (Nat.le_of_ble_eq_true rfl)) (fun r u h => h.elim) (fun E u h => ⟨Or.inr (h.1), h.2.2⟩)
      exact h_conF (h_mono (c_X8_strikeRateY2 hfl p1 (x := AD 0) (A := AM AD) (b := 0) (b2 := 54) (q := q) hX (AM_ne hA) hM hA.2.1 v0 v1 r1 w0) (Nat.le_of_ble_eq_true rfl) (Nat.le_of_ble_eq_true rfl) (Nat.le_of_ble_eq_true rfl) (Nat.le_of_ble_eq_true rfl)) (fun r u h => ⟨h.2.2, by rw [h.1]; exact f2d_n (fdiv_n _ _ w0)⟩) (fun _ _ h => False.elim h)
    · by_cases w0 : tget 6 11 66 (cs 3 1) p1 1 = 0
      · exact h_conF (h_mono (c_X8_strikeRateZ3 hfl p1 (x := AD 0) (A := AM AD) (b := 0) (b2 := 54) (q := q) hX (AM_ne hA) hM hA.2.1 v0 v1 r1 w0) (Nat.le_of_ble_eq_true rfl) (Nat.le_of_ble_eq_true rfl) (Nat.le_of_ble_eq_true rfl) (Nat.le_of_ble_eq_true rfl)) (fun r u h => h.elim) (fun E u h => ⟨Or.inr (h.1), h.2.2⟩)
      exact h_conF (h_mono (c_X8_strikeRateY3 hfl p1 (x := AD 0) (A := AM AD) (b := 0) (b2 := 54) (q := q) hX (AM_ne hA) hM hA.2.1 v0 v1 r1 w0) (Nat.le_of_ble_eq_true rfl) (Nat.le_of_ble_eq_true rfl) (Nat.le_of_ble_eq_true rfl) (Nat.le_of_ble_eq_true rfl)) (fun r u h => ⟨h.2.2, by rw [h.1]; exact f2d_n (fdiv_n _ _ w0)⟩) (fun _ _ h => False.elim h)
  obtain ⟨od, hod⟩ := hRs.2.2.2.2
  refine h_conH (w_strikeRate hfl (gl := od) hX K (fun E u h => h.1) (fun v w h => OUD_fr (fr_0 hA h.1) id hod) (fun v w h => h.2)) ?_
  intro r u hp
  rcases hp with ⟨-, v9, w9, hf, hu⟩ | ⟨-, -, hf⟩ | ⟨-, -, hf⟩
  · exact ⟨o, WJ_outD (WJ_fr0 h0 hf.1) (OUD_fr (fr_0 hA hf.1) id hod) hu⟩
  · exact ⟨o, WJ_fr0 h0 hf⟩
  · exact ⟨o, WJ_fr0 h0 hf⟩
set_option maxRecDepth 100000 in
theorem kR_innings {l : Launch} (hfl : l.stackTraces = false) {D : va_G} {cy : Nat → ClassId} {f : Hf} {sz : Nat} {AD : Nat → Nat} {q q2 : Nat → Option Nat} {k : Nat} {th : Int32} {o : Nat → Int64} (p0 p1 : Int32) (h : WJ AD cy q q2 k th o f) : hMet l yX9_innings cX9_innings 4 (some .int) { frames := 6, cells := 0, slots := 0, locals := 158 } D (hTy cy) f sz [.ref (AD 125), .int p0, .int p1] (hQi (fun b u => ∃ th, WJ AD cy q q2 (k + 1) th o u) D f sz) hNo := by
  obtain ⟨hA, xa, xr, xk, hi, tl, w, nS, nC, cm, cs, lo, le, lfi, ge, SS, g, gp, gd, hX, hMc, hC, hRm, hRs, hO, hJ, hb⟩ := h
  obtain ⟨ps, pl, to, hm⟩ := id hMc
  obtain ⟨i, hi4, g4⟩ := JM_g4 hJ
  exact h_conI (h_mono (k_X9_innings hfl p0 p1 hm hRm.1 g4 hi4) (Nat.le_of_ble_eq_true rfl) (Nat.le_of_ble_eq_true rfl) (Nat.le_of_ble_eq_true rfl) (Nat.le_of_ble_eq_true rfl)) (fun b u h => ⟨_, WJ_th hA hX hMc hC hRm hRs hO hJ hb (fr_o hA hMc h.2.2) ⟨_, _, _, h.2.1⟩⟩) (fun _ _ h => h)
set_option maxRecDepth 100000 in
theorem kR_batter {l : Launch} (hfl : l.stackTraces = false) {D : va_G} {cy : Nat → ClassId} {f : Hf} {sz : Nat} {AD : Nat → Nat} {q q2 : Nat → Option Nat} {k : Nat} {th : Int32} {o : Nat → Int64} (p0 p1 p2 : Int32) (h : WJ AD cy q q2 k th o f) : hMet l yX9_batter cX9_batter 5 (some .int) { frames := 6, cells := 0, slots := 0, locals := 158 } D (hTy cy) f sz [.ref (AD 125), .int p0, .int p1, .int p2] (hQi (fun b u => ∃ th, WJ AD cy q q2 (k + 1) th o u) D f sz) hNo := by
  obtain ⟨hA, xa, xr, xk, hi, tl, w, nS, nC, cm, cs, lo, le, lfi, ge, SS, g, gp, gd, hX, hMc, hC, hRm, hRs, hO, hJ, hb⟩ := h
  obtain ⟨ps, pl, to, hm⟩ := id hMc
  obtain ⟨i, hi4, g4⟩ := JM_g4 hJ
  exact h_conI (h_mono (k_X9_batter hfl p0 p1 p2 hm hRm.1 g4 hi4) (Nat.le_of_ble_eq_true rfl) (Nat.le_of_ble_eq_true rfl) (Nat.le_of_ble_eq_true rfl) (Nat.le_of_ble_eq_true rfl)) (fun b u h => ⟨_, WJ_th hA hX hMc hC hRm hRs hO hJ hb (fr_o hA hMc h.2.2) ⟨_, _, _, h.2.1⟩⟩) (fun _ _ h => h)
set_option maxRecDepth 100000 in
theorem kR_bowler {l : Launch} (hfl : l.stackTraces = false) {D : va_G} {cy : Nat → ClassId} {f : Hf} {sz : Nat} {AD : Nat → Nat} {q q2 : Nat → Option Nat} {k : Nat} {th : Int32} {o : Nat → Int64} (p0 p1 p2 : Int32) (h : WJ AD cy q q2 k th o f) : hMet l yX9_bowler cX9_bowler 5 (some .int) { frames := 6, cells := 0, slots := 0, locals := 158 } D (hTy cy) f sz [.ref (AD 125), .int p0, .int p1, .int p2] (hQi (fun b u => ∃ th, WJ AD cy q q2 (k + 1) th o u) D f sz) hNo := by
  obtain ⟨hA, xa, xr, xk, hi, tl, w, nS, nC, cm, cs, lo, le, lfi, ge, SS, g, gp, gd, hX, hMc, hC, hRm, hRs, hO, hJ, hb⟩ := h
  obtain ⟨ps, pl, to, hm⟩ := id hMc
  obtain ⟨i, hi4, g4⟩ := JM_g4 hJ
  exact h_conI (h_mono (k_X9_bowler hfl p0 p1 p2 hm hRm.1 g4 hi4) (Nat.le_of_ble_eq_true rfl) (Nat.le_of_ble_eq_true rfl) (Nat.le_of_ble_eq_true rfl) (Nat.le_of_ble_eq_true rfl)) (fun b u h => ⟨_, WJ_th hA hX hMc hC hRm hRs hO hJ hb (fr_o hA hMc h.2.2) ⟨_, _, _, h.2.1⟩⟩) (fun _ _ h => h)
set_option maxRecDepth 100000 in
theorem kR_partnership {l : Launch} (hfl : l.stackTraces = false) {D : va_G} {cy : Nat → ClassId} {f : Hf} {sz : Nat} {AD : Nat → Nat} {q q2 : Nat → Option Nat} {k : Nat} {th : Int32} {o : Nat → Int64} (p0 p1 p2 : Int32) (h : WJ AD cy q q2 k th o f) : hMet l yX9_partnership cX9_partnership 4 (some .int) { frames := 6, cells := 0, slots := 0, locals := 158 } D (hTy cy) f sz [.ref (AD 125), .int p0, .int p1, .int p2] (hQi (fun b u => ∃ th, WJ AD cy q q2 (k + 1) th o u) D f sz) hNo := by
  obtain ⟨hA, xa, xr, xk, hi, tl, w, nS, nC, cm, cs, lo, le, lfi, ge, SS, g, gp, gd, hX, hMc, hC, hRm, hRs, hO, hJ, hb⟩ := h
  obtain ⟨ps, pl, to, hm⟩ := id hMc
  obtain ⟨i, hi4, g4⟩ := JM_g4 hJ
  exact h_conI (h_mono (k_X9_partnership hfl p0 p1 p2 hm hRm.1 g4 hi4 (JM_shr hJ hi4 g4)) (Nat.le_of_ble_eq_true rfl) (Nat.le_of_ble_eq_true rfl) (Nat.le_of_ble_eq_true rfl) (Nat.le_of_ble_eq_true rfl)) (fun b u h => ⟨_, WJ_th hA hX hMc hC hRm hRs hO hJ hb (fr_o hA hMc h.2.2) ⟨_, _, _, h.2.1⟩⟩) (fun _ _ h => h)
set_option maxRecDepth 100000 in
theorem kR_fall {l : Launch} (hfl : l.stackTraces = false) {D : va_G} {cy : Nat → ClassId} {f : Hf} {sz : Nat} {AD : Nat → Nat} {q q2 : Nat → Option Nat} {k : Nat} {th : Int32} {o : Nat → Int64} (p0 p1 p2 : Int32) (h : WJ AD cy q q2 k th o f) : hMet l yX9_fall cX9_fall 4 (some .int) { frames := 6, cells := 0, slots := 0, locals := 158 } D (hTy cy) f sz [.ref (AD 125), .int p0, .int p1, .int p2] (hQi (fun b u => ∃ th, WJ AD cy q q2 (k + 1) th o u) D f sz) hNo := by
  obtain ⟨hA, xa, xr, xk, hi, tl, w, nS, nC, cm, cs, lo, le, lfi, ge, SS, g, gp, gd, hX, hMc, hC, hRm, hRs, hO, hJ, hb⟩ := h
  obtain ⟨ps, pl, to, hm⟩ := id hMc
  obtain ⟨i, hi4, g4⟩ := JM_g4 hJ
  exact h_conI (h_mono (k_X9_fall hfl p0 p1 p2 hm hRm.1 g4 hi4 (JM_wks hJ hi4 g4)) (Nat.le_of_ble_eq_true rfl) (Nat.le_of_ble_eq_true rfl) (Nat.le_of_ble_eq_true rfl) (Nat.le_of_ble_eq_true rfl)) (fun b u h => ⟨_, WJ_th hA hX hMc hC hRm hRs hO hJ hb (fr_o hA hMc h.2.2) ⟨_, _, _, h.2.1⟩⟩) (fun _ _ h => h)
set_option maxRecDepth 100000 in
theorem kR_runRate {l : Launch} (hfl : l.stackTraces = false) {D : va_G} {cy : Nat → ClassId} {f : Hf} {sz : Nat} {AD : Nat → Nat} {q q2 : Nat → Option Nat} {k : Nat} {th : Int32} {o : Nat → Int64} (p0 : Int32) (h : WJ AD cy q q2 k th o f) : hMet l yX9_runRate cX9_runRate 2 (some .double) { frames := 6, cells := 0, slots := 0, locals := 158 } D (hTy cy) f sz [.ref (AD 125), .int p0] (hQd (fun b u => ∃ th, WJ AD cy q q2 (k + 1) th o u) D f sz) hNo := by
  obtain ⟨hA, xa, xr, xk, hi, tl, w, nS, nC, cm, cs, lo, le, lfi, ge, SS, g, gp, gd, hX, hMc, hC, hRm, hRs, hO, hJ, hb⟩ := h
  obtain ⟨ps, pl, to, hm⟩ := id hMc
  by_cases hno : X9_isInnings_x1 g p0 = 0
  · exact h_conD (h_mono (k_X9_runRateN hfl p0 hm hRm.1 hno) (Nat.le_of_ble_eq_true rfl) (Nat.le_of_ble_eq_true rfl) (Nat.le_of_ble_eq_true rfl) (Nat.le_of_ble_eq_true rfl)) (fun b u h => ⟨_, WJ_th hA hX hMc hC hRm hRs hO hJ hb (fr_o hA hMc h.2.2) ⟨_, _, _, h.2.1⟩⟩) (fun _ _ h => h)
  · obtain ⟨ii, hii, rfl, hy⟩ := isI_nat hJ hno
    exact h_conD (h_mono (k_X9_runRateY hfl (i9 := 0) hm hRm.1 hii hy) (Nat.le_of_ble_eq_true rfl) (Nat.le_of_ble_eq_true rfl) (Nat.le_of_ble_eq_true rfl) (Nat.le_of_ble_eq_true rfl)) (fun b u h => ⟨_, WJ_th hA hX hMc hC hRm hRs hO hJ hb (fr_o hA hMc h.2.2) ⟨_, _, _, h.2.1⟩⟩) (fun _ _ h => h)
set_option maxRecDepth 100000 in
theorem kR_strikeRate {l : Launch} (hfl : l.stackTraces = false) {D : va_G} {cy : Nat → ClassId} {f : Hf} {sz : Nat} {AD : Nat → Nat} {q q2 : Nat → Option Nat} {k : Nat} {th : Int32} {o : Nat → Int64} (p0 p1 : Int32) (h : WJ AD cy q q2 k th o f) : hMet l yX9_strikeRate cX9_strikeRate 3 (some .float) { frames := 6, cells := 0, slots := 0, locals := 158 } D (hTy cy) f sz [.ref (AD 125), .int p0, .int p1] (hQf (fun b u => ∃ th, WJ AD cy q q2 (k + 1) th o u) D f sz) hNo := by
  obtain ⟨hA, xa, xr, xk, hi, tl, w, nS, nC, cm, cs, lo, le, lfi, ge, SS, g, gp, gd, hX, hMc, hC, hRm, hRs, hO, hJ, hb⟩ := h
  obtain ⟨ps, pl, to, hm⟩ := id hMc
  by_cases hno : X9_isInnings_x1 g p0 = 0
  · exact h_conF (h_mono (k_X9_strikeRateN hfl p0 p1 hm hRm.1 hno) (Nat.le_of_ble_eq_true rfl) (Nat.le_of_ble_eq_true rfl) (Nat.le_of_ble_eq_true rfl) (Nat.le_of_ble_eq_true rfl)) (fun b u h => ⟨_, WJ_th hA hX hMc hC hRm hRs hO hJ hb (fr_o hA hMc h.2.2) ⟨_, _, _, h.2.1⟩⟩) (fun _ _ h => h)
  · obtain ⟨ii, hii, rfl, hy⟩ := isI_nat hJ hno
    by_cases hp : X9_isIn_x1 p1 0 10 = 0
    · exact h_conF (h_mono (k_X9_strikeRateP hfl (nI ii) p1 hm hRm.1 hy hp) (Nat.le_of_ble_eq_true rfl) (Nat.le_of_ble_eq_true rfl) (Nat.le_of_ble_eq_true rfl) (Nat.le_of_ble_eq_true rfl)) (fun b u h => ⟨_, WJ_th hA hX hMc hC hRm hRs hO hJ hb (fr_o hA hMc h.2.2) ⟨_, _, _, h.2.1⟩⟩) (fun _ _ h => h)
    · obtain ⟨pp, hpp, rfl⟩ := wi_nat (x := p1) (n := 10) (by omega) hp
      exact h_conF (h_mono (k_X9_strikeRateY hfl (i9 := 0) (p := 0) hm hRm.1 hii (show pp < 11 by omega) hy (isIn_1 hp)) (Nat.le_of_ble_eq_true rfl) (Nat.le_of_ble_eq_true rfl) (Nat.le_of_ble_eq_true rfl) (Nat.le_of_ble_eq_true rfl)) (fun b u h => ⟨_, WJ_th hA hX hMc hC hRm hRs hO hJ hb (fr_o hA hMc h.2.2) ⟨_, _, _, h.2.1⟩⟩) (fun _ _ h => h)
set_option maxRecDepth 100000 in
theorem kR_errorPosition {l : Launch} (hfl : l.stackTraces = false) {D : va_G} {cy : Nat → ClassId} {f : Hf} {sz : Nat} {AD : Nat → Nat} {q q2 : Nat → Option Nat} {k : Nat} {th : Int32} {o : Nat → Int64} (h : WJ AD cy q q2 k th o f) : hMet l yX9_errorPosition cX9_errorPosition 1 (some .int) { frames := 6, cells := 0, slots := 0, locals := 158 } D (hTy cy) f sz [.ref (AD 125)] (hQi (fun b u => ∃ th, WJ AD cy q q2 (k + 1) th o u) D f sz) hNo := by
  obtain ⟨hA, xa, xr, xk, hi, tl, w, nS, nC, cm, cs, lo, le, lfi, ge, SS, g, gp, gd, hX, hMc, hC, hRm, hRs, hO, hJ, hb⟩ := h
  obtain ⟨ps, pl, to, hm⟩ := id hMc
  exact h_conI (h_mono (k_X9_errorPosition hfl hm) (Nat.le_of_ble_eq_true rfl) (Nat.le_of_ble_eq_true rfl) (Nat.le_of_ble_eq_true rfl) (Nat.le_of_ble_eq_true rfl)) (fun b u h => ⟨_, WJ_th hA hX hMc hC hRm hRs hO hJ hb (fr_o hA hMc h.2.2) ⟨_, _, _, h.2.1⟩⟩) (fun _ _ h => h)
set_option maxRecDepth 100000 in
theorem kR_refused {l : Launch} (hfl : l.stackTraces = false) {D : va_G} {cy : Nat → ClassId} {f : Hf} {sz : Nat} {AD : Nat → Nat} {q q2 : Nat → Option Nat} {k : Nat} {th : Int32} {o : Nat → Int64} (h : WJ AD cy q q2 k th o f) : hMet l yX9_refused cX9_refused 1 (some .int) { frames := 6, cells := 0, slots := 0, locals := 158 } D (hTy cy) f sz [.ref (AD 125)] (hQi (fun b u => ∃ th, WJ AD cy q q2 (k + 1) th o u) D f sz) hNo := by
  obtain ⟨hA, xa, xr, xk, hi, tl, w, nS, nC, cm, cs, lo, le, lfi, ge, SS, g, gp, gd, hX, hMc, hC, hRm, hRs, hO, hJ, hb⟩ := h
  obtain ⟨ps, pl, to, hm⟩ := id hMc
  exact h_conI (h_mono (k_X9_refused hfl hm) (Nat.le_of_ble_eq_true rfl) (Nat.le_of_ble_eq_true rfl) (Nat.le_of_ble_eq_true rfl) (Nat.le_of_ble_eq_true rfl)) (fun b u h => ⟨_, WJ_th hA hX hMc hC hRm hRs hO hJ hb (fr_o hA hMc h.2.2) ⟨_, _, _, h.2.1⟩⟩) (fun _ _ h => h)
set_option maxRecDepth 100000 in
theorem kR_reason {l : Launch} (hfl : l.stackTraces = false) {D : va_G} {cy : Nat → ClassId} {f : Hf} {sz : Nat} {AD : Nat → Nat} {q q2 : Nat → Option Nat} {k : Nat} {th : Int32} {o : Nat → Int64} (h : WJ AD cy q q2 k th o f) : hMet l yX9_reason cX9_reason 1 (some .int) { frames := 6, cells := 0, slots := 0, locals := 158 } D (hTy cy) f sz [.ref (AD 125)] (hQi (fun b u => ∃ th, WJ AD cy q q2 (k + 1) th o u) D f sz) hNo := by
  obtain ⟨hA, xa, xr, xk, hi, tl, w, nS, nC, cm, cs, lo, le, lfi, ge, SS, g, gp, gd, hX, hMc, hC, hRm, hRs, hO, hJ, hb⟩ := h
  obtain ⟨ps, pl, to, hm⟩ := id hMc
  exact h_conI (h_mono (k_X9_reason hfl hm) (Nat.le_of_ble_eq_true rfl) (Nat.le_of_ble_eq_true rfl) (Nat.le_of_ble_eq_true rfl) (Nat.le_of_ble_eq_true rfl)) (fun b u h => ⟨_, WJ_th hA hX hMc hC hRm hRs hO hJ hb (fr_o hA hMc h.2.2) ⟨_, _, _, h.2.1⟩⟩) (fun _ _ h => h)
set_option maxRecDepth 100000 in
theorem kR_commandCount {l : Launch} (hfl : l.stackTraces = false) {D : va_G} {cy : Nat → ClassId} {f : Hf} {sz : Nat} {AD : Nat → Nat} {q q2 : Nat → Option Nat} {k : Nat} {th : Int32} {o : Nat → Int64} (h : WJ AD cy q q2 k th o f) : hMet l yX9_commandCount cX9_commandCount 1 (some .int) { frames := 6, cells := 0, slots := 0, locals := 158 } D (hTy cy) f sz [.ref (AD 125)] (hQi (fun b u => ∃ th, WJ AD cy q q2 (k + 1) th o u) D f sz) hNo := by
  obtain ⟨hA, xa, xr, xk, hi, tl, w, nS, nC, cm, cs, lo, le, lfi, ge, SS, g, gp, gd, hX, hMc, hC, hRm, hRs, hO, hJ, hb⟩ := h
  obtain ⟨ps, pl, to, hm⟩ := id hMc
  exact h_conI (h_mono (k_X9_commandCount hfl hm hRm.1) (Nat.le_of_ble_eq_true rfl) (Nat.le_of_ble_eq_true rfl) (Nat.le_of_ble_eq_true rfl) (Nat.le_of_ble_eq_true rfl)) (fun b u h => ⟨_, WJ_th hA hX hMc hC hRm hRs hO hJ hb (fr_o hA hMc h.2.2) ⟨_, _, _, h.2.1⟩⟩) (fun _ _ h => h)
