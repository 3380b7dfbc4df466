set_option maxRecDepth 100000 in
theorem kL_storeOvers {l : Launch} (hfl : l.stackTraces = false) {D : va_G} {cy : Nat → ClassId} {f : Hf} {sz : Nat} {AD : Nat → Nat} {q q2 : Nat → Option Nat} {k : Nat} {th : Int32} {o : Nat → Int64} (p0 p1 p2 : Int32) (hb_p2 : p2 = 0 ∨ p2 = 1) (h : WJ AD cy q q2 k th o f) : hMetH l yL_storeOvers cL_storeOvers 6 (some .int) [((0 : Nat), (12 : Nat), (15 : Nat), (19 : Nat))] { frames := 9, cells := 64, slots := 600, locals := 170 } D (hTy cy) f sz [.ref (AD 0), .int p0, .int p1, .int p2, .ref (AD 138)] (hQi (fun r u => MIDW AD cy q q2 k p0 p1 p2 r u) D f sz) hNo := by
  obtain ⟨hA, xa, xr, xk, hi, tl, w, nS, nC, cm, cs, lo, le, lfi, ge, SS, g, gp, gd, hX, hMc, hC, hRm, hRs, hO, hJ, hb⟩ := h
  obtain ⟨hM, h1, h2, qs, sq, h3, h4⟩ := id hC
  obtain ⟨s1, s2, ⟨st, ex1, ln, st', ex1', ln', gz, gy, gs, gm, gw, gf, w1, w2, w3, w4, w5⟩, s3, s4⟩ := hRs
  by_cases v0 : X8_isWithin_x1 p0 0 1 = 0
  · refine h_conH (w_storeOvers hfl (gl := o) (P := fun _ _ => False) (X := fun E u => E = "java/lang/IndexOutOfBoundsException" ∧ u = f) hX (fun sz => h_mono (c_X8_storeOversB hfl p0 p1 p2 (x := AD 0) (A := AM AD) (b := 0) (b2 := 54) hX v0) (Nat.le_of_ble_eq_true rfl) (Nat.le_of_ble_eq_true rfl) (Nat.le_of_ble_eq_true rfl) (Nat.le_of_ble_eq_true rfl)) (fun E u hx => hx.1) (fun v w h => h.elim)) ?_
    intro r u hp
    rcases hp with ⟨rfl, v9, w9, hf, -⟩ | ⟨rfl, -, rfl⟩
    · exact hf.elim
    · exact ⟨hA, xa, xr, xk, hi, th, tl, w, nS, nC, cm, cs, lo, le, lfi, ge, SS, g, gp, gd, o, hX, hMc, hC, hRm, ⟨s1, s2, s3, s4⟩, hO, hJ, hb, st, ex1, ln, st', ex1', ln', gz, gy, gs, gm, gw, gf, ⟨w1, w2, w3⟩, Or.inl ⟨rfl, Or.inl v0, w4, w5⟩⟩
  obtain ⟨kk, hk1, rfl⟩ := wi_nat (n := 1) (by omega) v0
  by_cases v1 : X2_hasBegun_x2 (cm 0) (cm 4) p1 = 0
  · refine h_conH (w_storeOvers hfl (gl := o) (P := fun _ _ => False) hX (fun sz => h_mono (c_X8_storeOversN hfl (nI kk) p1 p2 (x := AD 0) (A := AM AD) (b := 0) (b2 := 54) (q := q) hX (AM_ne hA) hM hA.2.1 v0 v1) (Nat.le_of_ble_eq_true rfl) (Nat.le_of_ble_eq_true rfl) (Nat.le_of_ble_eq_true rfl) (Nat.le_of_ble_eq_true rfl)) (fun E u hx => hx.1) (fun v w h => h.elim)) ?_
    intro r u hp
    rcases hp with ⟨rfl, v9, w9, hf, -⟩ | ⟨rfl, -, -, hf⟩
    · exact hf.elim
    · have F := fr_0 hA hf
      exact ⟨hA, xa, xr, xk, hi, th, tl, w, nS, nC, cm, cs, lo, le, lfi, ge, SS, g, gp, gd, o, XC_fr F id hX, MC_fr F id hMc, CMN_fr F (fun i h1 h2 => id) id id id hC, RMN_fr F id id id hRm, RSM_fr F (fun i h => id) (Nat.le_refl _) ⟨s1, s2, s3, s4⟩, OUT_fr F id hO, hJ, hb, st, ex1, ln, st', ex1', ln', gz, gy, gs, gm, gw, gf, ⟨RW_fr F id id w1, RW_fr F id id w2, RRW_fr F id id id id w3⟩, Or.inl ⟨rfl, Or.inr v1, w4, w5⟩⟩
  obtain ⟨j, oc, bg, hB⟩ := JM_bgn hJ v1
  obtain ⟨hj, rfl, r0, hbn, hle, -, -, -, hruns⟩ := id hB
  have hk2 : kk = 0 ∨ kk = 1 := by omega
  rcases hk2 with rfl | rfl
  · have K : ∀ sz, hMet l yX8_storeOvers cX8_storeOvers 4 (some .int) { frames := 8, cells := 64, slots := 600, locals := 140 } D (hTy cy) f sz [.ref (AD 0), .int (nI 0), .int (nI j), .int p2] (hQi (fun r u => r = nI (oc + bg) ∧ RW AD cy 121 u 1 p2 (nI (oc + bg)) (X4_store_g2 gz (cs j 0) (cs j 5) (cs j 6 2) p2 (oc + bg)) ∧ hFrL f u [AD 121, AD (121 + 1)]) D f sz) hNo := by
      intro sz
      rcases c4 hj with rfl | rfl | rfl | rfl
      · exact h_conI (h_mono (c_X8_storeOvers00 hfl p2 (x := AD 0) (A := AM AD) (b := 0) (b2 := 54) (q := q) hX w1.1 w1.2 (AM_ne hA) hM hA.2.1 (nMA hA (by omega)) v0 v1 r0 hbn hle hb_p2) (Nat.le_of_ble_eq_true rfl) (Nat.le_of_ble_eq_true rfl) (Nat.le_of_ble_eq_true rfl) (Nat.le_of_ble_eq_true rfl)) (fun r u h => ⟨h.1, ⟨h.2.1, h.2.2.1⟩, h.2.2.2.2⟩) (fun _ _ h => False.elim h)
      · exact h_conI (h_mono (c_X8_storeOvers01 hfl p2 (x := AD 0) (A := AM AD) (b := 0) (b2 := 54) (q := q) hX w1.1 w1.2 (AM_ne hA) hM hA.2.1 (nMA hA (by omega)) v0 v1 r0 hbn hle hb_p2) (Nat.le_of_ble_eq_true rfl) (Nat.le_of_ble_eq_true rfl) (Nat.le_of_ble_eq_true rfl) (Nat.le_of_ble_eq_true rfl)) (fun r u h => ⟨h.1, ⟨h.2.1, h.2.2.1⟩, h.2.2.2.2⟩) (fun _ _ h => False.elim h)
      · exact h_conI (h_mono (c_X8_storeOvers02 hfl p2 (x := AD 0) (A := AM AD) (b := 0) (b2 := 54) (q := q) hX w1.1 w1.2 (AM_ne hA) hM hA.2.1 (nMA hA (by omega)) v0 v1 r0 hbn hle hb_p2) (Nat.le_of_ble_eq_true rfl) (Nat.le_of_ble_eq_true rfl) (Nat.le_of_ble_eq_true rfl) (Nat.le_of_ble_eq_true rfl)) (fun r u h => ⟨h.1, ⟨h.2.1, h.2.2.1⟩, h.2.2.2.2⟩) (fun _ _ h => False.elim h)
      · exact h_conI (h_mono (c_X8_storeOvers03 hfl p2 (x := AD 0) (A := AM AD) (b := 0) (b2 := 54) (q := q) hX w1.1 w1.2 (AM_ne hA) hM hA.2.1 (nMA hA (by omega)) v0 v1 r0 hbn hle hb_p2) (Nat.le_of_ble_eq_true rfl) (Nat.le_of_ble_eq_true rfl) (Nat.le_of_ble_eq_true rfl) (Nat.le_of_ble_eq_true rfl)) (fun r u h => ⟨h.1, ⟨h.2.1, h.2.2.1⟩, h.2.2.2.2⟩) (fun _ _ h => False.elim h)
    refine h_conH (w_storeOvers hfl (gl := o) hX K (fun _ _ h => False.elim h) (fun v9 u9 hp => OUT_fr (fr_w hA w1 hp.2.2) (by omega) hO)) ?_
    intro r u hp
    rcases hp with ⟨rfl, v9, u9, ⟨e9, y1, y2⟩, hu⟩ | ⟨-, hx⟩
    · have F1 := fr_w hA w1 y2
      obtain ⟨F2, O2⟩ := FR_up hA (nsc_a (OUT_fr F1 (by omega) hO)) hu
      have F := FR_trans F1 F2
      refine ⟨hA, xa, xr, xk, hi, th, tl, w, nS, nC, cm, cs, lo, le, lfi, ge, SS, g, gp, gd, _, XC_fr F (by omega) hX, MC_fr F (by omega) hMc, CMN_fr F (fun i h1 h2 => by omega) (by omega) (by omega) (by omega) hC, RMN_fr F (by omega) (by omega) (by omega) hRm, RSM_fr F (fun i h => by omega) (Nat.le_refl _) ⟨s1, s2, s3, s4⟩, O2, hJ, hb, 1, p2, nI (oc + bg), st', ex1', ln', _, gy, gs, gm, gw, gf, ⟨RW_fr F2 (by omega) (by omega) y1, RW_fr F (by omega) (by omega) w2, RRW_fr F (by omega) (by omega) (by omega) (by omega) w3⟩, Or.inr ⟨rfl, j, oc, bg, hB, ?_, Or.inl ⟨rfl, ⟨rfl, rfl, rfl, fun p hp => ?_⟩, w5⟩⟩⟩
      · rw [e9]; exact if_pos rfl
      · unfold X4_store_g2 cpoF
        rw [if_pos (by omega), Nat.sub_zero]
        unfold X4_store_x0
        rw [hruns p (by omega)]
    · exact hx.elim
  · have K : ∀ sz, hMet l yX8_storeOvers cX8_storeOvers 4 (some .int) { frames := 8, cells := 64, slots := 600, locals := 140 } D (hTy cy) f sz [.ref (AD 0), .int (nI 1), .int (nI j), .int p2] (hQi (fun r u => r = nI (oc + bg) ∧ RW AD cy 123 u 1 p2 (nI (oc + bg)) (X4_store_g2 gy (cs j 0) (cs j 5) (cs j 6 2) p2 (oc + bg)) ∧ hFrL f u [AD 123, AD (123 + 1)]) D f sz) hNo := by
      intro sz
      rcases c4 hj with rfl | rfl | rfl | rfl
      · exact h_conI (h_mono (c_X8_storeOvers10 hfl p2 (x := AD 0) (A := AM AD) (b := 0) (b2 := 54) (q := q) hX w2.1 w2.2 (AM_ne hA) hM hA.2.1 (nMA hA (by omega)) v0 v1 r0 hbn hle hb_p2) (Nat.le_of_ble_eq_true rfl) (Nat.le_of_ble_eq_true rfl) (Nat.le_of_ble_eq_true rfl) (Nat.le_of_ble_eq_true rfl)) (fun r u h => ⟨h.1, ⟨h.2.1, h.2.2.1⟩, h.2.2.2.2⟩) (fun _ _ h => False.elim h)
      · exact h_conI (h_mono (c_X8_storeOvers11 hfl p2 (x := AD 0) (A := AM AD) (b := 0) (b2 := 54) (q := q) hX w2.1 w2.2 (AM_ne hA) hM hA.2.1 (nMA hA (by omega)) v0 v1 r0 hbn hle hb_p2) (Nat.le_of_ble_eq_true rfl) (Nat.le_of_ble_eq_true rfl) (Nat.le_of_ble_eq_true rfl) (Nat.le_of_ble_eq_true rfl)) (fun r u h => ⟨h.1, ⟨h.2.1, h.2.2.1⟩, h.2.2.2.2⟩) (fun _ _ h => False.elim h)
      · exact h_conI (h_mono (c_X8_storeOvers12 hfl p2 (x := AD 0) (A := AM AD) (b := 0) (b2 := 54) (q := q) hX w2.1 w2.2 (AM_ne hA) hM hA.2.1 (nMA hA (by omega)) v0 v1 r0 hbn hle hb_p2) (Nat.le_of_ble_eq_true rfl) (Nat.le_of_ble_eq_true rfl) (Nat.le_of_ble_eq_true rfl) (Nat.le_of_ble_eq_true rfl)) (fun r u h => ⟨h.1, ⟨h.2.1, h.2.2.1⟩, h.2.2.2.2⟩) (fun _ _ h => False.elim h)
      · exact h_conI (h_mono (c_X8_storeOvers13 hfl p2 (x := AD 0) (A := AM AD) (b := 0) (b2 := 54) (q := q) hX w2.1 w2.2 (AM_ne hA) hM hA.2.1 (nMA hA (by omega)) v0 v1 r0 hbn hle hb_p2) (Nat.le_of_ble_eq_true rfl) (Nat.le_of_ble_eq_true rfl) (Nat.le_of_ble_eq_true rfl) (Nat.le_of_ble_eq_true rfl)) (fun r u h => ⟨h.1, ⟨h.2.1, h.2.2.1⟩, h.2.2.2.2⟩) (fun _ _ h => False.elim h)
    refine h_conH (w_storeOvers hfl (gl := o) hX K (fun _ _ h => False.elim h) (fun v9 u9 hp => OUT_fr (fr_w hA w2 hp.2.2) (by omega) hO)) ?_
    intro r u hp
    rcases hp with ⟨rfl, v9, u9, ⟨e9, y1, y2⟩, hu⟩ | ⟨-, hx⟩
    · have F1 := fr_w hA w2 y2
      obtain ⟨F2, O2⟩ := FR_up hA (nsc_a (OUT_fr F1 (by omega) hO)) hu
      have F := FR_trans F1 F2
      refine ⟨hA, xa, xr, xk, hi, th, tl, w, nS, nC, cm, cs, lo, le, lfi, ge, SS, g, gp, gd, _, XC_fr F (by omega) hX, MC_fr F (by omega) hMc, CMN_fr F (fun i h1 h2 => by omega) (by omega) (by omega) (by omega) hC, RMN_fr F (by omega) (by omega) (by omega) hRm, RSM_fr F (fun i h => by omega) (Nat.le_refl _) ⟨s1, s2, s3, s4⟩, O2, hJ, hb, st, ex1, ln, 1, p2, nI (oc + bg), gz, _, gs, gm, gw, gf, ⟨RW_fr F (by omega) (by omega) w1, RW_fr F2 (by omega) (by omega) y1, RRW_fr F (by omega) (by omega) (by omega) (by omega) w3⟩, Or.inr ⟨rfl, j, oc, bg, hB, ?_, Or.inr ⟨rfl, ⟨rfl, rfl, rfl, fun p hp => ?_⟩, w4⟩⟩⟩
      · rw [e9]; exact if_pos rfl
      · unfold X4_store_g2 cpoF
        rw [if_pos (by omega), Nat.sub_zero]
        unfold X4_store_x0
        rw [hruns p (by omega)]
    · exact hx.elim
set_option maxRecDepth 100000 in
theorem kR_storeOvers {l : Launch} (hfl : l.stackTraces = false) {D : va_G} {cy : Nat → ClassId} {f : Hf} {sz : Nat} {AD : Nat → Nat} {q q2 : Nat → Option Nat} {k : Nat} {r : Int32} (p0 p1 p2 : Int32) (hb_p2 : p2 = 0 ∨ p2 = 1) (h : MIDW AD cy q q2 k p0 p1 p2 r f) : hMet l yX9_storeOvers cX9_storeOvers 7 (some .int) { frames := 6, cells := 0, slots := 0, locals := 158 } D (hTy cy) f sz [.ref (AD 125), .int p0, .int p1, .int p2] (hQi (fun b u => ∃ o, WJ AD cy q q2 (k + 1) r o u ∧ (r = 0 → o 0 = b.toInt64)) D f sz) hNo := by
  obtain ⟨hA, xa, xr, xk, hi, th, tl, w, nS, nC, cm, cs, lo, le, lfi, ge, SS, g, gp, gd, o, hX, hMc, hC, hRm, ⟨s1, s2, s3, od, s4⟩, hO, hJ, hb, st, ex1, ln, st', ex1', ln', gz, gy, gs, gm, gw, gf, ⟨w1, w2, w3⟩, hc⟩ := h
  obtain ⟨ps, pl, to, hm⟩ := id hMc
  rcases hc with ⟨rfl, hbad, w4, w5⟩ | ⟨rfl, j, oc, bg, hB, ho, hc⟩
  · have hRst : RST AD cy q2 f hi tl k := ⟨s1, s2, ⟨st, ex1, ln, st', ex1', ln', gz, gy, gs, gm, gw, gf, w1, w2, w3, w4, w5⟩, s3, od, s4⟩
    by_cases v0 : X8_isWithin_x1 p0 0 1 = 0
    · exact h_conI (h_mono (k_X9_storeOversB hfl p0 p1 p2 hm hRm.1 v0 hb_p2) (Nat.le_of_ble_eq_true rfl) (Nat.le_of_ble_eq_true rfl) (Nat.le_of_ble_eq_true rfl) (Nat.le_of_ble_eq_true rfl)) (fun b u hp => ⟨o, WJ_th hA hX hMc hC hRm hRst hO hJ hb (fr_o hA hMc hp.2.2) ⟨_, _, _, hp.2.1⟩, fun z => absurd z (by decide)⟩) (fun _ _ h => h)
    · have v1 := hbad.resolve_left v0
      rw [← beg_eq hJ] at v1
      exact h_conI (h_mono (k_X9_storeOversN hfl p0 p1 p2 hm hRm.1 (isIn_1 v0) v1 hb_p2) (Nat.le_of_ble_eq_true rfl) (Nat.le_of_ble_eq_true rfl) (Nat.le_of_ble_eq_true rfl) (Nat.le_of_ble_eq_true rfl)) (fun b u hp => ⟨o, WJ_th hA hX hMc hC hRm hRst hO hJ hb (fr_o hA hMc hp.2.2) ⟨_, _, _, hp.2.1⟩, fun z => absurd z (by decide)⟩) (fun _ _ h => h)
  · obtain ⟨hj, rfl, r0, hbn, hle, g8, g10, hy, hruns⟩ := hB
    rcases hc with ⟨rfl, hS, w5⟩ | ⟨rfl, hS, w4⟩
    · refine h_conI (h_mono (k_X9_storeOvers0 hfl p2 (i9 := 0) hm hRm.1 w3.1 w3.2.1 w3.2.2.1 w3.2.2.2 hj hy g8 g10 hle hb_p2 (AD_ne hA (by omega))) (Nat.le_of_ble_eq_true rfl) (Nat.le_of_ble_eq_true rfl) (Nat.le_of_ble_eq_true rfl) (Nat.le_of_ble_eq_true rfl)) ?_ (fun _ _ h => h)
      intro b u hp
      obtain ⟨er, em, eso, emo, ewh, epf, ef⟩ := hp
      have F := fr_rw hA hMc w3 ef
      refine ⟨o, ⟨hA, xa, xr, xk, hi, tl, w, nS, nC, cm, cs, lo, le, lfi, ge, SS, g, gp, gd, XC_fr F (by unfold IW; omega) hX, ⟨_, _, _, em⟩, CMN_fr F (fun i h1 h2 => by unfold IW; omega) (by unfold IW; omega) (by unfold IW; omega) (by unfold IW; omega) hC, RMN_fr F (by unfold IW; omega) (by unfold IW; omega) (by unfold IW; omega) hRm, ⟨SVG_fr F (by unfold IW; omega) (by unfold IW; omega) (by unfold IW; omega) (by unfold IW; omega) (by unfold IW; omega) (by omega) s1, TXG_fr F (by unfold IW; omega) (by unfold IW; omega) (by unfold IW; omega) (by unfold IW; omega) s2, ⟨st, ex1, ln, st', ex1', ln', gz, gy, _, _, _, _, RW_fr F (by unfold IW; omega) (by unfold IW; omega) w1, RW_fr F (by unfold IW; omega) (by unfold IW; omega) w2, ⟨eso, emo, ewh, epf⟩, JRW_set hb_p2 hle hS upd_at upd_at (fun i hi => ?_) (fun i hi => ?_), JRW_ext w5 (upd_off (by omega)) (upd_off (by omega)) (fun i hi => ?_) (fun i hi => ?_)⟩, JNK_fr F (fun i h1 h2 => by unfold IW; omega) (by unfold IW; omega) (by unfold IW; omega) s3, od, OUD_fr F (by unfold IW; omega) s4⟩, OUT_fr F (by unfold IW; omega) hO, hJ, by omega⟩, fun _ => ho.trans (congrArg Int32.toInt64 er.symm)⟩
      · unfold X9_storeOvers0_g5; unfold cpo; rw [if_pos (by omega)]; exact congrArg _ (by omega)
      · unfold X9_storeOvers0_g6; unfold cpoF; rw [if_pos (by omega)]; have e : 21 * 0 + i - 0 = i := by omega
        rw [e] <;> rfl
      · exact cpo_out (by omega)
      · exact cpoF_out (by omega)
    · refine h_conI (h_mono (k_X9_storeOvers1 hfl p2 (i9 := 0) hm hRm.1 w3.1 w3.2.1 w3.2.2.1 w3.2.2.2 hj hy g8 g10 hle hb_p2 (AD_ne hA (by omega))) (Nat.le_of_ble_eq_true rfl) (Nat.le_of_ble_eq_true rfl) (Nat.le_of_ble_eq_true rfl) (Nat.le_of_ble_eq_true rfl)) ?_ (fun _ _ h => h)
      intro b u hp
      obtain ⟨er, em, eso, emo, ewh, epf, ef⟩ := hp
      have F := fr_rw hA hMc w3 ef
      refine ⟨o, ⟨hA, xa, xr, xk, hi, tl, w, nS, nC, cm, cs, lo, le, lfi, ge, SS, g, gp, gd, XC_fr F (by unfold IW; omega) hX, ⟨_, _, _, em⟩, CMN_fr F (fun i h1 h2 => by unfold IW; omega) (by unfold IW; omega) (by unfold IW; omega) (by unfold IW; omega) hC, RMN_fr F (by unfold IW; omega) (by unfold IW; omega) (by unfold IW; omega) hRm, ⟨SVG_fr F (by unfold IW; omega) (by unfold IW; omega) (by unfold IW; omega) (by unfold IW; omega) (by unfold IW; omega) (by omega) s1, TXG_fr F (by unfold IW; omega) (by unfold IW; omega) (by unfold IW; omega) (by unfold IW; omega) s2, ⟨st, ex1, ln, st', ex1', ln', gz, gy, _, _, _, _, RW_fr F (by unfold IW; omega) (by unfold IW; omega) w1, RW_fr F (by unfold IW; omega) (by unfold IW; omega) w2, ⟨eso, emo, ewh, epf⟩, JRW_ext w4 (upd_off (by omega)) (upd_off (by omega)) (fun i hi => ?_) (fun i hi => ?_), JRW_set hb_p2 hle hS upd_at upd_at (fun i hi => ?_) (fun i hi => ?_)⟩, JNK_fr F (fun i h1 h2 => by unfold IW; omega) (by unfold IW; omega) (by unfold IW; omega) s3, od, OUD_fr F (by unfold IW; omega) s4⟩, OUT_fr F (by unfold IW; omega) hO, hJ, by omega⟩, fun _ => ho.trans (congrArg Int32.toInt64 er.symm)⟩
      · exact cpo_out (by omega)
      · exact cpoF_out (by omega)
      · unfold X9_storeOvers1_g5; unfold cpo; rw [if_pos (by omega)]; exact congrArg _ (by omega)
      · unfold X9_storeOvers1_g6; unfold cpoF; rw [if_pos (by omega)]; have e : 21 * 1 + i - 21 = i := by omega
        rw [e] <;> rfl
