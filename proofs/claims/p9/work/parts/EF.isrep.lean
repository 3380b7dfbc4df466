/-! IS IT REPLAYED: the class -/
theorem RR_LK {cm : Nat → Int32} {cs : Nat → Nat → Nat → Int32} {g : Nat → Int32} {ov : Int32} {k : Nat} (hk : k ≤ 512) (h : RR cm cs g ov k) : ∃ n, n < 4 ∧ cm 4 = nI n ∧ g 4 = nI n ∧ ∀ j, j ≤ n → LK cs j := by
  obtain ⟨n, SB, RP, RF, OC, ⟨b1, b2, b3, b4, b5, b6, b7, b8, b9, b10⟩, hs, hp, -⟩ := h
  refine ⟨n, b1, b2, b9, fun j hj => ?_⟩
  have pj := hp j hj
  have hs3 := hs.2.2
  have hrp : RP j ≤ 520 := by
    rcases Nat.lt_or_ge j n with z | z
    · have := SUMS_lt hs z; omega
    · have e : j = n := by omega
      subst e; omega
  have d3 := dN_mk (n := 600) pj.1.2.2.2.2.2.2.1 (by omega) (by omega)
  have d4 := dN_mk (n := 600) pj.1.2.2.2.2.2.2.2.1 (by have := pj.2.2.1; omega) (by omega)
  have d2 := dN_mk (n := 600) pj.1.2.2.2.2.2.2.2.2.1 (by have := pj.2.2.2.1; omega) (by omega)
  exact ⟨pj.2.2.2.2.1.1, pj.2.2.2.2.1.2.1, pj.2.2.2.2.1.2.2, d3, d4, d2⟩
set_option maxRecDepth 100000 in
theorem kL_isReplayed {l : Launch} (hfl : l.stackTraces = false) {D : va_G} {cy : Nat → ClassId} {f : Hf} {sz : Nat} {AD : Nat → Nat} {q q2 : Nat → Option Nat} {k : Nat} {th : Int32} {o : Nat → Int64} (hk : k ≤ 511) (h : WJ AD cy q q2 k th o f) : hMetH l yL_isReplayed cL_isReplayed 3 (some .int) [((0 : Nat), (15 : Nat), (18 : Nat), (21 : Nat))] { frames := 9, cells := 64, slots := 600, locals := 170 } D (hTy cy) f sz [.ref (AD 0), .ref (AD 138)] (hQi (fun r u => MIDN AD cy q q2 k False u) D f sz) hNo := by
  obtain ⟨hA, xa, xr, xk, hi, tl, w, nS, nC, cm, cs, lo, le, lfi, ge, SS, g, gp, gd, hX, hMc, hC, hRm, hRs, hO, hJ, hb⟩ := h
  obtain ⟨hM, h1, h2, qs, sq, h3, h4⟩ := id hC
  obtain ⟨s0, s1, s2, ⟨⟨cm2, cs2, hM2⟩, s3⟩, od, s4⟩ := id hRs
  rcases JM_le hJ with ⟨v1, hle, -, -⟩ | ⟨v1, hle, -, hL⟩
  · refine h_conH (w_isReplayed hfl (gl := o) (P := fun _ _ => False) hX (fun sz => h_mono (c_X8_isReplayedN hfl  (x := AD 0) (A := AM AD) (b := 0) (b2 := 54) hX h1 h3 h2 v1) (Nat.le_of_ble_eq_true rfl) (Nat.le_of_ble_eq_true rfl) (Nat.le_of_ble_eq_true rfl) (Nat.le_of_ble_eq_true rfl)) (fun E u hx => hx.1) (fun v w h => h.elim)) ?_
    intro r u hp
    rcases hp with ⟨rfl, v9, w9, hf, -⟩ | ⟨rfl, -, hx, hfr⟩
    · exact hf.elim
    · have F := fr_x hA hX hfr
      exact MIDN_of hA F (fun i h1 h2 => by omega) hx hMc hC hRm hRs (OUT_fr F (by omega) hO) hJ hb (Or.inr (Or.inl ⟨id, hle, rfl⟩))
  · have v2 : ¬ X1_hasMatch_x0 le = 0 := by rw [v1]; decide
    obtain ⟨⟨E, hE, -⟩, -⟩ := id hL
    have hR2 := CHN_RR hE.1 cm2 cs2 nS hE.2.1 g hE.2.2.1
    obtain ⟨n, hn, n4, g4, hL1⟩ := RR_LK (by omega) (JL_RR hL)
    obtain ⟨n', hn9, n4', g4', hL2'⟩ := RR_LK (by omega) hR2
    have en : n' = n := (nI_eq (by omega) (by omega)).mp (g4'.symm.trans g4)
    rw [en] at n4' hL2'
    have hdis : ∀ j ∈ MA (AM AD) 54, j ∉ MA (AM AD) 0 := fun j hj => by
      obtain ⟨i, hi9, e⟩ := MA_ix hj
      rw [e]; exact nMA hA (by omega)
    have fr2 : ∀ {v : Hf}, hFrL f v (MA (AM AD) 54) → FR AD f v (fun i => 55 ≤ i ∧ i ≤ 108) := fun {v} hf => by
      refine FR_mk hA hf (fun y hy => ?_) (fun i hi9 => nsc_m hM2 (by omega))
      obtain ⟨j, hj, e⟩ := MA_ix hy
      exact ⟨54 + j + 1, by omega, e⟩
    have K : ∀ sz, hMet l yX8_isReplayed cX8_isReplayed 1 (some .boolean) { frames := 8, cells := 64, slots := 600, locals := 140 } D (hTy cy) f sz [.ref (AD 0)] (hQi (fun r u => (∃ cm3 cs3, MW (AM AD) 54 cy q2 cm3 cs3 u) ∧ hFrL f u (MA (AM AD) 54)) D f sz) hNo := by
      intro sz
      rcases c4 hn with rfl | rfl | rfl | rfl
      · exact h_conI (h_mono (c_X8_isReplayed0 hfl (x := AD 0) (A := AM AD) (b := 0) (b2 := 54) (q := q) (q2 := q2) hX h1 h3 h2 (AM_ne hA) hM hA.2.1 (nMA hA (by omega)) (nMA hA (by omega)) hM2 hA.2.2 (nMA hA (by omega)) (nMA hA (by omega)) v2 v1 hE.2.1 h4 (JL_pp hE.1 hE.2.1 hE.2.2.1 cm2 cs2) n4 n4' hL1 hL2' hdis) (Nat.le_of_ble_eq_true rfl) (Nat.le_of_ble_eq_true rfl) (Nat.le_of_ble_eq_true rfl) (Nat.le_of_ble_eq_true rfl)) (fun r u h => ⟨⟨_, _, h.2.1⟩, h.2.2⟩) (fun _ _ h => False.elim h)
      · exact h_conI (h_mono (c_X8_isReplayed1 hfl (x := AD 0) (A := AM AD) (b := 0) (b2 := 54) (q := q) (q2 := q2) hX h1 h3 h2 (AM_ne hA) hM hA.2.1 (nMA hA (by omega)) (nMA hA (by omega)) hM2 hA.2.2 (nMA hA (by omega)) (nMA hA (by omega)) v2 v1 hE.2.1 h4 (JL_pp hE.1 hE.2.1 hE.2.2.1 cm2 cs2) n4 n4' hL1 hL2' hdis) (Nat.le_of_ble_eq_true rfl) (Nat.le_of_ble_eq_true rfl) (Nat.le_of_ble_eq_true rfl) (Nat.le_of_ble_eq_true rfl)) (fun r u h => ⟨⟨_, _, h.2.1⟩, h.2.2⟩) (fun _ _ h => False.elim h)
      · exact h_conI (h_mono (c_X8_isReplayed2 hfl (x := AD 0) (A := AM AD) (b := 0) (b2 := 54) (q := q) (q2 := q2) hX h1 h3 h2 (AM_ne hA) hM hA.2.1 (nMA hA (by omega)) (nMA hA (by omega)) hM2 hA.2.2 (nMA hA (by omega)) (nMA hA (by omega)) v2 v1 hE.2.1 h4 (JL_pp hE.1 hE.2.1 hE.2.2.1 cm2 cs2) n4 n4' hL1 hL2' hdis) (Nat.le_of_ble_eq_true rfl) (Nat.le_of_ble_eq_true rfl) (Nat.le_of_ble_eq_true rfl) (Nat.le_of_ble_eq_true rfl)) (fun r u h => ⟨⟨_, _, h.2.1⟩, h.2.2⟩) (fun _ _ h => False.elim h)
      · exact h_conI (h_mono (c_X8_isReplayed3 hfl (x := AD 0) (A := AM AD) (b := 0) (b2 := 54) (q := q) (q2 := q2) hX h1 h3 h2 (AM_ne hA) hM hA.2.1 (nMA hA (by omega)) (nMA hA (by omega)) hM2 hA.2.2 (nMA hA (by omega)) (nMA hA (by omega)) v2 v1 hE.2.1 h4 (JL_pp hE.1 hE.2.1 hE.2.2.1 cm2 cs2) n4 n4' hL1 hL2' hdis) (Nat.le_of_ble_eq_true rfl) (Nat.le_of_ble_eq_true rfl) (Nat.le_of_ble_eq_true rfl) (Nat.le_of_ble_eq_true rfl)) (fun r u h => ⟨⟨_, _, h.2.1⟩, h.2.2⟩) (fun _ _ h => False.elim h)
    refine h_conH (w_isReplayed hfl (gl := o) hX K (fun _ _ h => False.elim h) (fun v w h => OUT_fr (fr2 h.2) (by omega) hO)) ?_
    intro r u hp
    rcases hp with ⟨-, v9, w9, ⟨⟨cm3, cs3, m3⟩, hf⟩, hu⟩ | ⟨-, hf⟩
    · have F1 := fr2 hf
      obtain ⟨F2, O2⟩ := FR_up hA (nsc_a (OUT_fr F1 (by omega) hO)) hu
      have F : FR AD f u (fun i => (55 ≤ i ∧ i ≤ 108) ∨ i = 138) := FR_trans F1 F2
      obtain ⟨⟨gk, k1⟩, ⟨gq, k2⟩⟩ := s3
      exact ⟨hA, xa, xr, xk, hi, th, tl, w, nS, nC, cm, cs, lo, le, lfi, ge, SS, g, gp, gd, _, xk, XC_fr F (by omega) hX, MC_fr F (by omega) hMc, CMN_fr F (fun i h1 h2 => by omega) (by omega) (by omega) (by omega) hC, RMN_fr F (by omega) (by omega) (by omega) hRm, ⟨SVG_fr F (by omega) (by omega) (by omega) (by omega) (by omega) (Nat.le_refl _) s0, TXG_fr F (by omega) (by omega) (by omega) (by omega) s1, ROG_fr F (fun i h1 h2 => by omega) (fun i h1 h2 => by omega) s2, ⟨⟨cm3, cs3, MW_FR F2 (fun i h1 h2 => by omega) m3⟩, ⟨gk, IA_fr F (by omega) k1⟩, ⟨gq, IA_fr F (by omega) k2⟩⟩, od, OUD_fr F (by omega) s4⟩, O2, hJ, hb, Or.inr (Or.inr ⟨id, hle, rfl⟩)⟩
    · exact False.elim hf
