/-! UNDO -/
/-- between the two calls of undo -/
def MIDU (AD : Nat → Nat) (cy : Nat → ClassId) (q q2 : Nat → Option Nat) (k : Nat) (r : Int32) (u : Hf) : Prop := AOK AD q q2 ∧ ∃ (xa xr xk hi th : Int32) (tl w nS nC : Nat) (cm : Nat → Int32) (cs : Nat → Nat → Nat → Int32) (lo le lfi : Int32) (ge : Nat → Int32) (SS : Nat → Nat → Int32) (g gp gd : Nat → Int32) (o : Nat → Int64), MC AD u th xk (nI w) hi (nI tl) xa xr ∧ RMN AD cy u g gp gd ∧ RST AD cy q2 u hi tl k ∧ JM cm cs lo le lfi w nS nC ge SS g gp gd ∧ nS + tl ≤ k ∧ ((w = 0 ∧ r = 1 ∧ XC AD u xa xr 7 ∧ CMN AD cy q u cm cs lo le lfi w nS nC ge SS ∧ OUT AD cy u o) ∨ (1 ≤ w ∧ r = 0 ∧ XC AD u xa xr xk ∧ (∃ (n1 : Nat) (mz : Nat → Int32) (sz : Nat → Nat → Nat → Int32), n1 ≤ nS ∧ CMN AD cy q u (fl SS (foM mz le lfi) (foS sz lo le) n1).1 (fl SS (foM mz le lfi) (foS sz lo le) n1).2 lo le lfi (w - 1) n1 (nC - 1) ge SS ∧ ∀ z : Nat → Int32, (∀ p, p < 6441 → z p = gp ((w - 1) * 6441 + p)) → JL (fl SS (foM mz le lfi) (foS sz lo le) n1).1 (fl SS (foM mz le lfi) (foS sz lo le) n1).2 lo le lfi (w - 1) n1 (nC - 1) ge SS z gp gd) ∧ OUT AD cy u (vp_updL o 0 (nI (w - 1)).toInt64)))
theorem JL_pp {lo le lfi : Int32} {SS : Nat → Nat → Int32} {n : Nat} {g : Nat → Int32} (hb : BEG lo le) (hn : n ≤ 512) (h : CHN lo le lfi SS n g) (cm : Nat → Int32) (cs : Nat → Nat → Nat → Int32) : ∀ j : Nat, j < n → PP (fl SS (foM cm le lfi) (foS cs lo le) j).1 (fl SS (foM cm le lfi) (foS cs lo le) j).2 := fun j hj => by
  obtain ⟨z, hz⟩ := CHN_pre n g h j (by omega)
  exact RR_PP (by omega) (CHN_RR hb cm cs j (by omega) z hz)
set_option maxRecDepth 100000 in
theorem kL_undo {l : Launch} (hfl : l.stackTraces = false) {D : va_G} {cy : Nat → ClassId} {f : Hf} {sz : Nat} {AD : Nat → Nat} {q q2 : Nat → Option Nat} {k : Nat} {th : Int32} {o : Nat → Int64} (hk : k ≤ 511) (h : WJ AD cy q q2 k th o f) : hMetH l yL_undo cL_undo 3 (some .int) [((0 : Nat), (8 : Nat), (11 : Nat), (21 : Nat))] { frames := 9, cells := 64, slots := 600, locals := 170 } D (hTy cy) f sz [.ref (AD 0), .ref (AD 138)] (hQi (fun r u => MIDU AD cy q q2 k r u) D f sz) hNo := by
  obtain ⟨hA, xa, xr, xk, hi, tl, w, nS, nC, cm, cs, lo, le, lfi, ge, SS, g, gp, gd, hX, hMc, hC, hRm, hRs, hO, hJ, hb⟩ := h
  obtain ⟨hM, h1, h2, qs, sq, h3, h4⟩ := id hC
  have hw8 := JM_w hJ
  by_cases hw : w = 0
  · subst hw
    refine h_conH (w_undo hfl (gl := o) (P := fun _ _ => False) hX (fun sz => h_mono (c_X8_undoN hfl (x := AD 0) (A := AM AD) (b := 0) (b2 := 54) hX h1 h3 h2 rfl) (Nat.le_of_ble_eq_true rfl) (Nat.le_of_ble_eq_true rfl) (Nat.le_of_ble_eq_true rfl) (Nat.le_of_ble_eq_true rfl)) (fun E u hx => hx.1) (fun v w h => h.elim)) ?_
    intro r u hp
    rcases hp with ⟨rfl, v9, w9, hf, -⟩ | ⟨rfl, -, hx, hfr⟩
    · exact hf.elim
    · have F := fr_x hA hX hfr
      exact ⟨hA, xa, xr, xk, hi, th, tl, 0, nS, nC, cm, cs, lo, le, lfi, ge, SS, g, gp, gd, o, MC_fr F (by omega) hMc, RMN_fr F (by omega) (by omega) (by omega) hRm, RST_fr F (fun i h => by omega) (Nat.le_refl _) hRs, hJ, hb, Or.inl ⟨rfl, rfl, hx, CMN_fr F (fun i h1 h2 => by omega) (by omega) (by omega) (by omega) hC, OUT_fr F (by omega) hO⟩⟩
  · have hL : JL cm cs lo le lfi w nS nC ge SS g gp gd := by
      rcases hJ with ⟨-, -, -, -, -, z⟩ | z
      · exact absurd z hw
      · exact z
    have hw0 : ¬ nI w = 0 := fun z => hw ((nI_eq (a := w) (b := 0) (by omega) (by omega)).mp z)
    have ew : nI w - 1 = nI (w - 1) := nI_sb (a := w) (b := 1) (by omega)
    have hle1 : X1_hasMatch_x0 le = 1 := by
      rcases JM_le hJ with ⟨-, -, -, z⟩ | ⟨z, -⟩
      · obtain ⟨n, -, n4, hV, -⟩ := JL_now hL
        obtain ⟨n, SB, RP, RF, OC, ⟨b1, b2, b3, b4, -⟩, -⟩ := JL_RR hL
        rw [b4] at z; exact absurd z (by decide)
      · exact z
    have hnC := JM_nC hJ
    obtain ⟨c1, n1, hn1, hn0, hge, hU⟩ := JL_undo hL (by omega) (q := fun p => gp ((w - 1) * 6441 + p)) (fun _ _ => rfl) cm cs
    have hU2 : ∀ z : Nat → Int32, (∀ p, p < 6441 → z p = gp ((w - 1) * 6441 + p)) → JL (fl SS (foM cm le lfi) (foS cs lo le) n1).1 (fl SS (foM cm le lfi) (foS cs lo le) n1).2 lo le lfi (w - 1) n1 (nC - 1) ge SS z gp gd := fun z hz => JL_cp hU hz (fun _ _ => rfl)
    have K : ∀ sz, hMet l yX8_undo cX8_undo 1 (some .int) { frames := 8, cells := 64, slots := 600, locals := 140 } D (hTy cy) f sz [.ref (AD 0)] (hQi (fun r u => r = nI (w - 1) ∧ u (AD 109) = some (.inr (3, [.ref (AD (109 + 1)), .ref (AD (109 + 2)), .ref (AD (109 + 3)), .int lo, .int le, .int lfi, .int (nI n1), .int (nI (nC - 1)), .int (nI (w - 1))])) ∧ MW (AM AD) 0 cy q (fl SS (foM cm le lfi) (foS cs lo le) n1).1 (fl SS (foM cm le lfi) (foS cs lo le) n1).2 u ∧ hFrL f u (MA (AM AD) 0 ++ [AD 109])) D f sz) hNo := by
      intro sz
      rcases Nat.lt_or_ge nC 2 with z | z
      · have e1 : nC = 1 := by omega
        subst e1
        have e0 := hn0 rfl
        subst e0
        refine h_conI (h_mono (c_X8_undo1 hfl (x := AD 0) (A := AM AD) (b := 0) (b2 := 54) (q := q) hX h1 h3 h2 (AM_ne hA) hM hA.2.1 (nMA hA (by omega)) (nMA hA (by omega)) hw0 hle1) (Nat.le_of_ble_eq_true rfl) (Nat.le_of_ble_eq_true rfl) (Nat.le_of_ble_eq_true rfl) (Nat.le_of_ble_eq_true rfl)) (fun r u h => ?_) (fun _ _ h => False.elim h)
        obtain ⟨y1, y2, y3, y4⟩ := h
        rw [ew] at y2
        exact ⟨y1.trans ew, y2, y3, y4⟩
      · obtain ⟨⟨E, hE, -⟩, -⟩ := id hU
        refine h_conI (h_mono (c_X8_undoS hfl (x := AD 0) (A := AM AD) (b := 0) (b2 := 54) (q := q) hX h1 h3 h2 (AM_ne hA) hM hA.2.1 (nMA hA (by omega)) (nMA hA (by omega)) hw0 hle1 (by omega) z (hge z) hn1 (by omega) h4 (JL_pp hE.1 (by omega) hE.2.2.1 cm cs)) (Nat.le_of_ble_eq_true rfl) (Nat.le_of_ble_eq_true rfl) (Nat.le_of_ble_eq_true rfl) (Nat.le_of_ble_eq_true rfl)) (fun r u h => ?_) (fun _ _ h => False.elim h)
        obtain ⟨y1, y2, y3, y4⟩ := h
        rw [ew, hge z] at y2
        exact ⟨y1.trans ew, y2, y3, y4⟩
    refine h_conH (w_undo hfl (gl := o) hX K (fun _ _ h => False.elim h) (fun v9 u9 hp => OUT_fr (fr_g hA hC hp.2.2.2) (by unfold IG; omega) hO)) ?_
    intro r u hp
    rcases hp with ⟨rfl, v9, u9, ⟨e9, y2, y4, y5⟩, hu⟩ | ⟨rfl, hx⟩
    · have F1 := fr_g hA hC y5
      have O1 : OUT AD cy u9 o := OUT_fr F1 (by unfold IG; omega) hO
      obtain ⟨F2, O2⟩ := FR_up hA (nsc_a O1) hu
      have C1 : CMN AD cy q u9 (fl SS (foM cm le lfi) (foS cs lo le) n1).1 (fl SS (foM cm le lfi) (foS cs lo le) n1).2 lo le lfi (w - 1) n1 (nC - 1) ge SS := ⟨y4, y2, F1.1 (109 + 3) _ (by unfold IG; omega) h2, qs, sq, F1.1 (109 + 2) _ (by unfold IG; omega) h3, fun j hj => ⟨(h4 j (by omega)).1, F1.2 _ _ (h4 j (by omega)).2⟩⟩
      rw [e9] at O2
      exact ⟨hA, xa, xr, xk, hi, th, tl, w, nS, nC, cm, cs, lo, le, lfi, ge, SS, g, gp, gd, o, MC_fr F2 (by omega) (MC_fr F1 (by unfold IG; omega) hMc), RMN_fr F2 (by omega) (by omega) (by omega) (RMN_fr F1 (by unfold IG; omega) (by unfold IG; omega) (by unfold IG; omega) hRm), RST_fr F2 (fun i h => by omega) (Nat.le_refl _) (RST_fr F1 (fun i h => by unfold IG; omega) (Nat.le_refl _) hRs), hJ, hb, Or.inr ⟨by omega, rfl, XC_fr F2 (by omega) (XC_fr F1 (by unfold IG; omega) hX), ⟨n1, cm, cs, hn1, CMN_fr F2 (fun i h1 h2 => by omega) (by omega) (by omega) (by omega) C1, hU2⟩, O2⟩⟩
    · exact False.elim hx
set_option maxRecDepth 100000 in
theorem kR_undo {l : Launch} (hfl : l.stackTraces = false) {D : va_G} {cy : Nat → ClassId} {f : Hf} {sz : Nat} {AD : Nat → Nat} {q q2 : Nat → Option Nat} {k : Nat} {r : Int32} (h : MIDU AD cy q q2 k r f) : hMet l yX9_undo cX9_undo 2 (some .int) { frames := 6, cells := 0, slots := 0, locals := 158 } D (hTy cy) f sz [.ref (AD 125)] (hQi (fun b u => ∃ o, WJ AD cy q q2 (k + 1) r o u ∧ (r = 0 → o 0 = b.toInt64)) D f sz) hNo := by
  obtain ⟨hA, xa, xr, xk, hi, th, tl, w, nS, nC, cm, cs, lo, le, lfi, ge, SS, g, gp, gd, o, hMc, hRm, hRs, hJ, hb, hc⟩ := h
  obtain ⟨ps, pl, to, hm⟩ := id hMc
  have hw8 := JM_w hJ
  rcases hc with ⟨rfl, rfl, c3, c4, c5⟩ | ⟨c1, rfl, c3, ⟨n1, mz, sz9, n2, c4, hU⟩, c5⟩
  · refine h_conI (h_mono (k_X9_undo0 hfl hm hRm.1) (Nat.le_of_ble_eq_true rfl) (Nat.le_of_ble_eq_true rfl) (Nat.le_of_ble_eq_true rfl) (Nat.le_of_ble_eq_true rfl)) ?_ (fun _ _ h => h)
    intro b u hp
    obtain ⟨-, em, ef⟩ := hp
    have F := fr_o hA hMc ef
    exact ⟨o, ⟨hA, xa, xr, 7, hi, tl, 0, nS, nC, cm, cs, lo, le, lfi, ge, SS, g, gp, gd, XC_fr F (by omega) c3, ⟨_, _, _, em⟩, CMN_fr F (fun i h1 h2 => by omega) (by omega) (by omega) (by omega) c4, RMN_fr F (by omega) (by omega) (by omega) hRm, RST_fr F (fun i h => by omega) (by omega) hRs, OUT_fr F (by omega) c5, hJ, by omega⟩, fun z => absurd z (by decide)⟩
  · refine h_conI (h_mono (k_X9_undoS hfl (un := w) hm hRm.1 hRm.2.1 c1 (by omega)) (Nat.le_of_ble_eq_true rfl) (Nat.le_of_ble_eq_true rfl) (Nat.le_of_ble_eq_true rfl) (Nat.le_of_ble_eq_true rfl)) ?_ (fun _ _ h => h)
    intro b u hp
    obtain ⟨er, em, ev, ef⟩ := hp
    have F := fr_mv hA hMc hRm ef
    refine ⟨_, ⟨hA, xa, xr, xk, hi, tl, w - 1, n1, nC - 1, _, _, lo, le, lfi, ge, SS, X9_undoS_g1 g gp w, gp, gd, XC_fr F (by omega) c3, ⟨_, _, _, em⟩, CMN_fr F (fun i h1 h2 => by omega) (by omega) (by omega) (by omega) c4, ⟨ev, IA_fr F (by omega) hRm.2.1, IA_fr F (by omega) hRm.2.2⟩, RST_fr F (fun i h => by omega) (by omega) hRs, OUT_fr F (by omega) c5, Or.inr (hU _ (fun p hp => if_pos hp)), by omega⟩, fun _ => ?_⟩
    rw [er]; exact if_pos rfl
