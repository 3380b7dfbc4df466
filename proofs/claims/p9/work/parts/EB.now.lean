/-! NOW AND NEEDED -/
theorem JM_le {cm : Nat → Int32} {cs : Nat → Nat → Nat → Int32} {lo le lfi : Int32} {w nS nC : Nat} {ge : Nat → Int32} {SS : Nat → Nat → Int32} {g gp gd : Nat → Int32} (h : JM cm cs lo le lfi w nS nC ge SS g gp gd) : (X1_hasMatch_x0 le = 0 ∧ le = 0 ∧ g 0 = 0 ∧ cm 0 = 0) ∨ (X1_hasMatch_x0 le = 1 ∧ ¬ le = 0 ∧ g 0 = 1 ∧ JL cm cs lo le lfi w nS nC ge SS g gp gd) := by
  rcases h with ⟨h1, h0, hg, -⟩ | h
  · exact Or.inl ⟨by rw [h1]; rfl, h1, hg 0 (by omega), h0⟩
  · obtain ⟨n, SB, RP, RF, OC, ⟨b1, b2, b3, b4, b5, -⟩, -⟩ := JL_RR h
    have hle : le = 1 ∨ le = 2 := by
      obtain ⟨⟨E, h9, -⟩, -⟩ := h
      exact h9.1.2
    refine Or.inr ⟨?_, ?_, b5, h⟩
    · rcases hle with z | z <;> rw [z] <;> rfl
    · rcases hle with z | z <;> rw [z] <;> decide
theorem JL_now {cm : Nat → Int32} {cs : Nat → Nat → Nat → Int32} {lo le lfi : Int32} {w nS nC : Nat} {ge : Nat → Int32} {SS : Nat → Nat → Int32} {g gp gd : Nat → Int32} (h : JL cm cs lo le lfi w nS nC ge SS g gp gd) : ∃ n, n < 4 ∧ cm 4 = nI n ∧ VAR cm ∧ ∀ j, j ≤ n → cs j 7 0 = 1 ∧ cs j 7 1 = 11 ∧ cs j 7 2 = 11 := by
  obtain ⟨n, SB, RP, RF, OC, ⟨b1, b2, b3, b4, b5, -⟩, hs, hp, -⟩ := JL_RR h
  exact ⟨n, b1, b2, b3, fun j hj => (hp j hj).2.2.2.2.1⟩
/-- between the two calls of a question that no match refuses -/
def MIDN (AD : Nat → Nat) (cy : Nat → ClassId) (q q2 : Nat → Option Nat) (k : Nat) (bad : Prop) (u : Hf) : Prop := AOK AD q q2 ∧ ∃ (xa xr xk hi th : Int32) (tl w nS nC : Nat) (cm : Nat → Int32) (cs : Nat → Nat → Nat → Int32) (lo le lfi : Int32) (ge : Nat → Int32) (SS : Nat → Nat → Int32) (g gp gd : Nat → Int32) (o : Nat → Int64) (y : Int32), XC AD u xa xr y ∧ MC AD u th xk (nI w) hi (nI tl) xa xr ∧ CMN AD cy q u cm cs lo le lfi w nS nC ge SS ∧ RMN AD cy u g gp gd ∧ RST AD cy q2 u hi tl k ∧ OUT AD cy u o ∧ JM cm cs lo le lfi w nS nC ge SS g gp gd ∧ nS + tl ≤ k ∧ ((bad ∧ y = xk) ∨ (¬ bad ∧ le = 0 ∧ y = 1) ∨ (¬ bad ∧ ¬ le = 0 ∧ y = xk))
theorem MIDN_of {AD : Nat → Nat} {cy : Nat → ClassId} {q q2 : Nat → Option Nat} {k : Nat} {bad : Prop} {u : Hf} (hA : AOK AD q q2) {xa xr xk hi th : Int32} {tl w nS nC : Nat} {cm : Nat → Int32} {cs : Nat → Nat → Nat → Int32} {lo le lfi : Int32} {ge : Nat → Int32} {SS : Nat → Nat → Int32} {g gp gd : Nat → Int32} {f : Hf} {I : Nat → Prop} {y : Int32} {o : Nat → Int64} (F : FR AD f u I) (hI : ∀ i, i ≠ 0 → i ≠ 138 → ¬ I i) (hX : XC AD u xa xr y) (hMc : MC AD f th xk (nI w) hi (nI tl) xa xr) (hC : CMN AD cy q f cm cs lo le lfi w nS nC ge SS) (hRm : RMN AD cy f g gp gd) (hRs : RST AD cy q2 f hi tl k) (hO : OUT AD cy u o) (hJ : JM cm cs lo le lfi w nS nC ge SS g gp gd) (hb : nS + tl ≤ k) (hc : (bad ∧ y = xk) ∨ (¬ bad ∧ le = 0 ∧ y = 1) ∨ (¬ bad ∧ ¬ le = 0 ∧ y = xk)) : MIDN AD cy q q2 k bad u := ⟨hA, xa, xr, xk, hi, th, tl, w, nS, nC, cm, cs, lo, le, lfi, ge, SS, g, gp, gd, o, y, hX, MC_fr F (hI _ (by omega) (by omega)) hMc, CMN_fr F (fun i h1 h2 => hI _ (by omega) (by omega)) (hI _ (by omega) (by omega)) (hI _ (by omega) (by omega)) (hI _ (by omega) (by omega)) hC, RMN_fr F (hI _ (by omega) (by omega)) (hI _ (by omega) (by omega)) (hI _ (by omega) (by omega)) hRm, RST_fr F (fun i h => hI _ (by omega) (by omega)) (Nat.le_refl _) hRs, hO, hJ, hb, hc⟩
set_option maxRecDepth 100000 in
theorem kL_now {l : Launch} (hfl : l.stackTraces = false) {D : va_G} {cy : Nat → ClassId} {f : Hf} {sz : Nat} {AD : Nat → Nat} {q q2 : Nat → Option Nat} {k : Nat} {th : Int32} {o : Nat → Int64} (p0 : Int32) (h : WJ AD cy q q2 k th o f) : hMetH l yL_now cL_now 4 (some .int) [((0 : Nat), (9 : Nat), (12 : Nat), (13 : Nat)), ((0 : Nat), (9 : Nat), (15 : Nat), (21 : Nat))] { frames := 9, cells := 64, slots := 600, locals := 170 } D (hTy cy) f sz [.ref (AD 0), .int p0, .ref (AD 138)] (hQi (fun r u => MIDN AD cy q q2 k (X8_isWithin_x1 p0 0 8 = 0) u) D f sz) hNo := by
  obtain ⟨hA, xa, xr, xk, hi, tl, w, nS, nC, cm, cs, lo, le, lfi, ge, SS, g, gp, gd, hX, hMc, hC, hRm, hRs, hO, hJ, hb⟩ := h
  obtain ⟨hM, h1, h2, qs, sq, h3, h4⟩ := id hC
  by_cases v0 : X8_isWithin_x1 p0 0 8 = 0
  · refine h_conH (w_now hfl (gl := o) (P := fun _ _ => False) (X := fun E u => E = "java/lang/IllegalArgumentException" ∧ u = f) hX (fun sz => h_mono (c_X8_nowB hfl p0 (x := AD 0) (A := AM AD) (b := 0) (b2 := 54) hX v0) (Nat.le_of_ble_eq_true rfl) (Nat.le_of_ble_eq_true rfl) (Nat.le_of_ble_eq_true rfl) (Nat.le_of_ble_eq_true rfl)) (fun E u hx => Or.inl hx.1) (fun v w h => h.elim)) ?_
    intro r u hp
    rcases hp with ⟨rfl, v9, w9, hf, -⟩ | ⟨rfl, -, rfl⟩ | ⟨rfl, hx, -⟩
    · exact hf.elim
    · exact MIDN_of hA (FR_rfl (I := fun _ => False)) (fun i h1 h2 => id) hX hMc hC hRm hRs hO hJ hb (Or.inl ⟨v0, rfl⟩)
    · exact absurd hx (by decide)
  rcases JM_le hJ with ⟨v1, hle, -, -⟩ | ⟨v1, hle, -, hL⟩
  · refine h_conH (w_now hfl (gl := o) (P := fun _ _ => False) hX (fun sz => h_mono (c_X8_nowN hfl p0 (x := AD 0) (A := AM AD) (b := 0) (b2 := 54) hX h1 h3 h2 v0 v1) (Nat.le_of_ble_eq_true rfl) (Nat.le_of_ble_eq_true rfl) (Nat.le_of_ble_eq_true rfl) (Nat.le_of_ble_eq_true rfl)) (fun E u hx => Or.inr hx.1) (fun v w h => h.elim)) ?_
    intro r u hp
    rcases hp with ⟨rfl, v9, w9, hf, -⟩ | ⟨rfl, hx, -⟩ | ⟨rfl, -, hx, hfr⟩
    · exact hf.elim
    · exact absurd hx (by decide)
    · have F := fr_x hA hX hfr
      exact MIDN_of hA F (fun i h1 h2 => by omega) hx hMc hC hRm hRs (OUT_fr F (by omega) hO) hJ hb (Or.inr (Or.inl ⟨v0, hle, rfl⟩))
  · have v2 : ¬ X1_hasMatch_x0 le = 0 := by rw [v1]; decide
    obtain ⟨n, hn, n4, -, hr⟩ := JL_now hL
    have r1 := (hr n (Nat.le_refl _)).2.1
    have K : ∀ sz, hMet l yX8_now cX8_now 2 (some .int) { frames := 8, cells := 64, slots := 600, locals := 140 } D (hTy cy) f sz [.ref (AD 0), .int p0] (hQi (fun r u => hFrL f u []) D f sz) hNo := by
      intro sz
      rcases c4 hn with rfl | rfl | rfl | rfl
      · exact h_conI (h_mono (c_X8_now0 hfl p0 (x := AD 0) (A := AM AD) (b := 0) (b2 := 54) (q := q) hX h1 h3 h2 (AM_ne hA) hM hA.2.1 (nMA hA (by omega)) (nMA hA (by omega)) v0 v2 n4 r1) (Nat.le_of_ble_eq_true rfl) (Nat.le_of_ble_eq_true rfl) (Nat.le_of_ble_eq_true rfl) (Nat.le_of_ble_eq_true rfl)) (fun r u h => h.2.2) (fun _ _ h => False.elim h)
      · exact h_conI (h_mono (c_X8_now1 hfl p0 (x := AD 0) (A := AM AD) (b := 0) (b2 := 54) (q := q) hX h1 h3 h2 (AM_ne hA) hM hA.2.1 (nMA hA (by omega)) (nMA hA (by omega)) v0 v2 n4 r1) (Nat.le_of_ble_eq_true rfl) (Nat.le_of_ble_eq_true rfl) (Nat.le_of_ble_eq_true rfl) (Nat.le_of_ble_eq_true rfl)) (fun r u h => h.2.2) (fun _ _ h => False.elim h)
      · exact h_conI (h_mono (c_X8_now2 hfl p0 (x := AD 0) (A := AM AD) (b := 0) (b2 := 54) (q := q) hX h1 h3 h2 (AM_ne hA) hM hA.2.1 (nMA hA (by omega)) (nMA hA (by omega)) v0 v2 n4 r1) (Nat.le_of_ble_eq_true rfl) (Nat.le_of_ble_eq_true rfl) (Nat.le_of_ble_eq_true rfl) (Nat.le_of_ble_eq_true rfl)) (fun r u h => h.2.2) (fun _ _ h => False.elim h)
      · exact h_conI (h_mono (c_X8_now3 hfl p0 (x := AD 0) (A := AM AD) (b := 0) (b2 := 54) (q := q) hX h1 h3 h2 (AM_ne hA) hM hA.2.1 (nMA hA (by omega)) (nMA hA (by omega)) v0 v2 n4 r1) (Nat.le_of_ble_eq_true rfl) (Nat.le_of_ble_eq_true rfl) (Nat.le_of_ble_eq_true rfl) (Nat.le_of_ble_eq_true rfl)) (fun r u h => h.2.2) (fun _ _ h => False.elim h)
    refine h_conH (w_now hfl (gl := o) hX K (fun _ _ h => False.elim h) (fun v w h => OUT_fr (fr_0 hA h) id hO)) ?_
    intro r u hp
    rcases hp with ⟨-, v9, w9, hf, hu⟩ | ⟨-, hf⟩ | ⟨-, hf⟩
    · have F1 := fr_0 hA hf
      obtain ⟨F2, O2⟩ := FR_up hA (nsc_a (OUT_fr F1 id hO)) hu
      have F : FR AD f u (fun i => i = 138) := FR_le (FR_trans F1 F2) (fun i z => z.resolve_left id)
      exact MIDN_of hA F (fun i h1 h2 => by omega) (XC_fr F (by omega) hX) hMc hC hRm hRs O2 hJ hb (Or.inr (Or.inr ⟨v0, hle, rfl⟩))
    · exact False.elim hf
    · exact False.elim hf
set_option maxRecDepth 100000 in
theorem kR_now {l : Launch} (hfl : l.stackTraces = false) {D : va_G} {cy : Nat → ClassId} {f : Hf} {sz : Nat} {AD : Nat → Nat} {q q2 : Nat → Option Nat} {k : Nat} (p0 : Int32) (h : MIDN AD cy q q2 k (X8_isWithin_x1 p0 0 8 = 0) f) : hMet l yX9_now cX9_now 3 (some .int) { frames := 6, cells := 0, slots := 0, locals := 158 } D (hTy cy) f sz [.ref (AD 125), .int p0] (hQi (fun b u => ∃ th o, WJ AD cy q q2 (k + 1) th o u) D f sz) hNo := by
  obtain ⟨hA, xa, xr, xk, hi, th, tl, w, nS, nC, cm, cs, lo, le, lfi, ge, SS, g, gp, gd, o, y, hX, hMc, hC, hRm, hRs, hO, hJ, hb, hc⟩ := h
  obtain ⟨ps, pl, to, hm⟩ := id hMc
  obtain ⟨i, hi4, g4⟩ := JM_g4 hJ
  refine h_conI (h_mono (k_X9_now hfl p0 hm hRm.1 g4 hi4) (Nat.le_of_ble_eq_true rfl) (Nat.le_of_ble_eq_true rfl) (Nat.le_of_ble_eq_true rfl) (Nat.le_of_ble_eq_true rfl)) ?_ (fun _ _ h => h)
  intro b u hp
  obtain ⟨-, em, ef⟩ := hp
  have F := fr_o hA hMc ef
  have hy : X9_now_x3 xk g p0 = y := by
    unfold X9_now_x3 X9_now_x0
    have e0 : X9_isIn_x1 p0 0 8 = X8_isWithin_x1 p0 0 8 := rfl
    rw [e0]
    rcases hc with ⟨c1, rfl⟩ | ⟨c1, c2, rfl⟩ | ⟨c1, c2, rfl⟩
    · rw [if_pos c1]; rfl
    · rw [if_neg c1, if_neg (by decide)]
      rcases JM_le hJ with ⟨-, -, z, -⟩ | ⟨-, z, -⟩
      · unfold X9_hasMatch_x2; rw [z]; rfl
      · exact absurd c2 z
    · rw [if_neg c1, if_neg (by decide)]
      rcases JM_le hJ with ⟨-, z, -⟩ | ⟨-, -, z, -⟩
      · exact absurd z c2
      · unfold X9_hasMatch_x2; rw [if_pos z]
  rw [hy] at em
  exact ⟨_, o, hA, xa, xr, y, hi, tl, w, nS, nC, cm, cs, lo, le, lfi, ge, SS, g, gp, gd, XC_fr F (by omega) hX, ⟨_, _, _, em⟩, CMN_fr F (fun i h1 h2 => by omega) (by omega) (by omega) (by omega) hC, RMN_fr F (by omega) (by omega) (by omega) hRm, RST_fr F (fun i h => by omega) (by omega) hRs, OUT_fr F (by omega) hO, hJ, by omega⟩
set_option maxRecDepth 100000 in
theorem kL_needed {l : Launch} (hfl : l.stackTraces = false) {D : va_G} {cy : Nat → ClassId} {f : Hf} {sz : Nat} {AD : Nat → Nat} {q q2 : Nat → Option Nat} {k : Nat} {th : Int32} {o : Nat → Int64} (p0 : Int32) (hb_p0 : p0 = 0 ∨ p0 = 1) (h : WJ AD cy q q2 k th o f) : hMetH l yL_needed cL_needed 4 (some .int) [((0 : Nat), (9 : Nat), (12 : Nat), (21 : Nat)), ((0 : Nat), (9 : Nat), (15 : Nat), (57 : Nat))] { frames := 9, cells := 64, slots := 600, locals := 170 } D (hTy cy) f sz [.ref (AD 0), .int p0, .ref (AD 138)] (hQi (fun r u => MIDN AD cy q q2 k False u) D f sz) hNo := by
  obtain ⟨hA, xa, xr, xk, hi, tl, w, nS, nC, cm, cs, lo, le, lfi, ge, SS, g, gp, gd, hX, hMc, hC, hRm, hRs, hO, hJ, hb⟩ := h
  obtain ⟨hM, h1, h2, qs, sq, h3, h4⟩ := id hC
  rcases JM_le hJ with ⟨v1, hle, -, -⟩ | ⟨v1, hle, -, hL⟩
  · refine h_conH (w_needed hfl (gl := o) (P := fun _ _ => False) hX (fun sz => h_mono (c_X8_neededN hfl p0 (x := AD 0) (A := AM AD) (b := 0) (b2 := 54) hX h1 h3 h2 v1) (Nat.le_of_ble_eq_true rfl) (Nat.le_of_ble_eq_true rfl) (Nat.le_of_ble_eq_true rfl) (Nat.le_of_ble_eq_true rfl)) (fun E u hx => Or.inl hx.1) (fun v w h => h.elim)) ?_
    intro r u hp
    rcases hp with ⟨rfl, v9, w9, hf, -⟩ | ⟨rfl, -, hx, hfr⟩ | ⟨rfl, hx, -⟩
    · exact hf.elim
    · have F := fr_x hA hX hfr
      exact MIDN_of hA F (fun i h1 h2 => by omega) hx hMc hC hRm hRs (OUT_fr F (by omega) hO) hJ hb (Or.inr (Or.inl ⟨id, hle, rfl⟩))
    · exact absurd hx (by decide)
  · have v3 : ¬ X1_hasMatch_x0 le = 0 := by rw [v1]; decide
    obtain ⟨n, hn, n4, hV, hr⟩ := JL_now hL
    have K : ∀ sz, hMet l yX8_needed cX8_needed 3 (some .int) { frames := 8, cells := 64, slots := 600, locals := 140 } D (hTy cy) f sz [.ref (AD 0), .int p0] (hQi (fun r u => hFrL f u []) D f sz) (fun E u => E = "java/util/NoSuchElementException" ∧ hFrL f u []) := by
      intro sz
      by_cases v2 : X2_isLastPlayed_x0 (cm 2) (cm 4) = 0
      · exact h_conI (h_mono (c_X8_neededL hfl p0 (x := AD 0) (A := AM AD) (b := 0) (b2 := 54) (q := q) hX h1 h3 h2 (AM_ne hA) hM hA.2.1 (nMA hA (by omega)) (nMA hA (by omega)) v3 v2) (Nat.le_of_ble_eq_true rfl) (Nat.le_of_ble_eq_true rfl) (Nat.le_of_ble_eq_true rfl) (Nat.le_of_ble_eq_true rfl)) (fun r u h => h.elim) (fun E u h => ⟨h.1, h.2.2⟩)
      · rcases hV with ⟨w2, w4 | w4⟩ | ⟨w2, w4 | w4 | w4 | w4⟩
        · rw [w2, w4] at v2; exact absurd (by decide) v2
        · have en : n = 1 := (nI_eq (a := n) (b := 1) (by omega) (by omega)).mp (n4.symm.trans w4)
          exact h_conI (h_mono (c_X8_needed11 hfl p0 (x := AD 0) (A := AM AD) (b := 0) (b2 := 54) (q := q) hX h1 h3 h2 (AM_ne hA) hM hA.2.1 (nMA hA (by omega)) (nMA hA (by omega)) v3 w4 w2 (hr 0 (by omega)).1 (hr 1 (by omega)).1 hb_p0) (Nat.le_of_ble_eq_true rfl) (Nat.le_of_ble_eq_true rfl) (Nat.le_of_ble_eq_true rfl) (Nat.le_of_ble_eq_true rfl)) (fun r u h => h.2.2) (fun _ _ h => False.elim h)
        · rw [w2, w4] at v2; exact absurd (by decide) v2
        · rw [w2, w4] at v2; exact absurd (by decide) v2
        · rw [w2, w4] at v2; exact absurd (by decide) v2
        · have en : n = 3 := (nI_eq (a := n) (b := 3) (by omega) (by omega)).mp (n4.symm.trans w4)
          exact h_conI (h_mono (c_X8_needed32 hfl p0 (x := AD 0) (A := AM AD) (b := 0) (b2 := 54) (q := q) hX h1 h3 h2 (AM_ne hA) hM hA.2.1 (nMA hA (by omega)) (nMA hA (by omega)) v3 w4 w2 (hr 0 (by omega)).1 (hr 1 (by omega)).1 (hr 2 (by omega)).1 (hr 3 (by omega)).1 hb_p0) (Nat.le_of_ble_eq_true rfl) (Nat.le_of_ble_eq_true rfl) (Nat.le_of_ble_eq_true rfl) (Nat.le_of_ble_eq_true rfl)) (fun r u h => h.2.2) (fun _ _ h => False.elim h)
    refine h_conH (w_needed hfl (gl := o) hX K (fun E u h => Or.inr h.1) (fun v w h => OUT_fr (fr_0 hA h) id hO)) ?_
    intro r u hp
    rcases hp with ⟨-, v9, w9, hf, hu⟩ | ⟨-, hf, -⟩ | ⟨-, -, hf⟩
    · have F1 := fr_0 hA hf
      obtain ⟨F2, O2⟩ := FR_up hA (nsc_a (OUT_fr F1 id hO)) hu
      have F : FR AD f u (fun i => i = 138) := FR_le (FR_trans F1 F2) (fun i z => z.resolve_left id)
      exact MIDN_of hA F (fun i h1 h2 => by omega) (XC_fr F (by omega) hX) hMc hC hRm hRs O2 hJ hb (Or.inr (Or.inr ⟨id, hle, rfl⟩))
    · exact absurd hf (by decide)
    · have F := fr_0 hA hf
      exact MIDN_of hA F (fun i h1 h2 => id) (XC_fr F id hX) hMc hC hRm hRs (OUT_fr F id hO) hJ hb (Or.inr (Or.inr ⟨id, hle, rfl⟩))
set_option maxRecDepth 100000 in
theorem kR_needed {l : Launch} (hfl : l.stackTraces = false) {D : va_G} {cy : Nat → ClassId} {f : Hf} {sz : Nat} {AD : Nat → Nat} {q q2 : Nat → Option Nat} {k : Nat} (p0 : Int32) (hb_p0 : p0 = 0 ∨ p0 = 1) (h : MIDN AD cy q q2 k False f) : hMet l yX9_needed cX9_needed 3 (some .int) { frames := 6, cells := 0, slots := 0, locals := 158 } D (hTy cy) f sz [.ref (AD 125), .int p0] (hQi (fun b u => ∃ th o, WJ AD cy q q2 (k + 1) th o u) D f sz) hNo := by
  obtain ⟨hA, xa, xr, xk, hi, th, tl, w, nS, nC, cm, cs, lo, le, lfi, ge, SS, g, gp, gd, o, y, hX, hMc, hC, hRm, hRs, hO, hJ, hb, hc⟩ := h
  obtain ⟨ps, pl, to, hm⟩ := id hMc
  rcases JM_le hJ with ⟨-, z1, z2, -⟩ | ⟨-, z1, z2, -⟩
  · have hy : y = 1 := by
      rcases hc with ⟨c1, -⟩ | ⟨-, -, c3⟩ | ⟨-, c2, -⟩
      · exact c1.elim
      · exact c3
      · exact absurd z1 c2
    subst hy
    refine h_conI (h_mono (k_X9_neededN hfl p0 hm hRm.1 z2) (Nat.le_of_ble_eq_true rfl) (Nat.le_of_ble_eq_true rfl) (Nat.le_of_ble_eq_true rfl) (Nat.le_of_ble_eq_true rfl)) ?_ (fun _ _ h => h)
    intro b u hp
    obtain ⟨-, em, ef⟩ := hp
    have F := fr_o hA hMc ef
    exact ⟨_, o, ⟨hA, xa, xr, _, hi, tl, w, nS, nC, cm, cs, lo, le, lfi, ge, SS, g, gp, gd, XC_fr F (by omega) hX, ⟨_, _, _, em⟩, CMN_fr F (fun i h1 h2 => by omega) (by omega) (by omega) (by omega) hC, RMN_fr F (by omega) (by omega) (by omega) hRm, RST_fr F (fun i h => by omega) (by omega) hRs, OUT_fr F (by omega) hO, hJ, by omega⟩⟩
  · have hy : y = xk := by
      rcases hc with ⟨c1, -⟩ | ⟨-, c2, -⟩ | ⟨-, -, c3⟩
      · exact c1.elim
      · exact absurd c2 z1
      · exact c3
    subst hy
    rcases JM_last hJ with h0 | ⟨i, e, g4, hi4, g1, he, hie, hrr⟩
    · rw [h0] at z2; exact absurd z2 (by decide)
    · refine h_conI (h_mono (k_X9_needed hfl p0 hm hRm.1 g4 hi4 g1 he hie hrr hb_p0) (Nat.le_of_ble_eq_true rfl) (Nat.le_of_ble_eq_true rfl) (Nat.le_of_ble_eq_true rfl) (Nat.le_of_ble_eq_true rfl)) ?_ (fun _ _ h => h)
      intro b u hp
      obtain ⟨-, em, ef⟩ := hp
      have F := fr_o hA hMc ef
      rw [show X9_hasMatch_x2 y g = y from if_pos z2] at em
      exact ⟨_, o, ⟨hA, xa, xr, _, hi, tl, w, nS, nC, cm, cs, lo, le, lfi, ge, SS, g, gp, gd, XC_fr F (by omega) hX, ⟨_, _, _, em⟩, CMN_fr F (fun i h1 h2 => by omega) (by omega) (by omega) (by omega) hC, RMN_fr F (by omega) (by omega) (by omega) hRm, RST_fr F (fun i h => by omega) (by omega) hRs, OUT_fr F (by omega) hO, hJ, by omega⟩⟩
