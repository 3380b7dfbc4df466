/-! RESTORE -/
/-- between the two calls of restore -/
def MIDV (AD : Nat → Nat) (cy : Nat → ClassId) (q q2 : Nat → Option Nat) (k : Nat) (r : Int32) (u : Hf) : Prop := AOK AD q q2 ∧ ∃ (xa xr xk hi th : Int32) (tl w nS nC : Nat) (cm : Nat → Int32) (cs : Nat → Nat → Nat → Int32) (lo le lfi : Int32) (ge : Nat → Int32) (SS : Nat → Nat → Int32) (g gp gd : Nat → Int32) (o : Nat → Int64) (lo' le' lfi' lun' : Int32) (nS' nC' : Nat) (ge' : Nat → Int32) (SS' : Nat → Nat → Int32) (gi gj : Nat → Int32), MC AD u th xk (nI w) hi (nI tl) xa xr ∧ RMN AD cy u g gp gd ∧ (TXG AD cy u tl ∧ ROG AD cy u ∧ JNK AD cy q2 u ∧ ∃ od, OUD AD cy u od) ∧ LG AD cy 113 u lo' le' lfi' nS' nC' lun' ge' SS' ∧ IA AD cy u 127 6441 gi ∧ IA AD cy u 131 24000 gj ∧ JS hi lo' le' lfi' nS' nC' ge' SS' gi gj ∧ nS' + tl ≤ k ∧ ((hi = 0 ∧ r = 1 ∧ XC AD u xa xr 7 ∧ OUT AD cy u o ∧ CMN AD cy q u cm cs lo le lfi w nS nC ge SS ∧ JM cm cs lo le lfi w nS nC ge SS g gp gd ∧ nS + tl ≤ k) ∨ (hi = 1 ∧ r = 0 ∧ XC AD u xa xr xk ∧ OUT AD cy u (vp_updL o 0 (nI nC').toInt64) ∧ ∃ gf : Nat → Int32, CMN AD cy q u (fl SS' (foM cm le' lfi') (foS cs lo' le') nS').1 (fl SS' (foM cm le' lfi') (foS cs lo' le') nS').2 lo' le' lfi' 0 nS' nC' gf SS' ∧ ∀ c, c < 512 → gf c = ge' c))
theorem JS_23 {hi lo le lfi : Int32} {nS nC : Nat} {ge : Nat → Int32} {SS : Nat → Nat → Int32} {gi gj : Nat → Int32} (h : JS hi lo le lfi nS nC ge SS gi gj) : gi 23 = nI nS ∧ nS ≤ 512 := by
  rcases h with ⟨-, -, h1, h2⟩ | ⟨-, E, hE⟩
  · exact ⟨by rw [h1, h2]; rfl, by omega⟩
  · obtain ⟨n, SB, RP, RF, OC, ⟨b1, b2, b3, b4, b5, b6, b7, b8, b9, b10⟩, -⟩ := CHN_RR hE.1 (fun _ => 0) (fun _ _ _ => 0) nS hE.2.1 gi hE.2.2.1
    exact ⟨b10, hE.2.1⟩
set_option maxRecDepth 100000 in
theorem kL_restore {l : Launch} (hfl : l.stackTraces = false) {D : va_G} {cy : Nat → ClassId} {f : Hf} {sz : Nat} {AD : Nat → Nat} {q q2 : Nat → Option Nat} {k : Nat} {th : Int32} {o : Nat → Int64} (h : WJ AD cy q q2 k th o f) : hMetH l yL_restore cL_restore 3 (some .int) [((0 : Nat), (8 : Nat), (11 : Nat), (21 : Nat))] { frames := 9, cells := 64, slots := 600, locals := 170 } D (hTy cy) f sz [.ref (AD 0), .ref (AD 138)] (hQi (fun r u => MIDV AD cy q q2 k r u) D f sz) hNo := by
  obtain ⟨hA, xa, xr, xk, hi, tl, w, nS, nC, cm, cs, lo, le, lfi, ge, SS, g, gp, gd, hX, hMc, hC, hRm, hRs, hO, hJ, hb⟩ := h
  obtain ⟨hM, h1, h2, qs, sq, h3, h4⟩ := id hC
  obtain ⟨⟨lo', le', lfi', lun', nS', nC', ge', SS', gi, gj, hG, hi1, hj1, hJS, hb'⟩, hRs2⟩ := hRs
  obtain ⟨t1, t2, qs', sq', t3, t4⟩ := id hG
  obtain ⟨s1, s2, s3, od, s4⟩ := hRs2
  rcases id hJS with ⟨z1, z2, z3, z4⟩ | ⟨z1, E, hE⟩
  · have v1 : X1_hasMatch_x0 le' = 0 := by rw [z2]; rfl
    refine h_conH (w_restore hfl (gl := o) (P := fun _ _ => False) hX (fun sz => h_mono (c_X8_restoreN hfl (x := AD 0) (A := AM AD) (b := 0) (b2 := 54) hX t1 t3 t2 v1) (Nat.le_of_ble_eq_true rfl) (Nat.le_of_ble_eq_true rfl) (Nat.le_of_ble_eq_true rfl) (Nat.le_of_ble_eq_true rfl)) (fun E u hx => hx.1) (fun v w h => h.elim)) ?_
    intro r u hp
    rcases hp with ⟨rfl, v9, w9, hf, -⟩ | ⟨rfl, -, hx, hfr⟩
    · exact hf.elim
    · have F := fr_x hA hX hfr
      exact ⟨hA, xa, xr, xk, hi, th, tl, w, nS, nC, cm, cs, lo, le, lfi, ge, SS, g, gp, gd, o, lo', le', lfi', lun', nS', nC', ge', SS', gi, gj, MC_fr F (by omega) hMc, RMN_fr F (by omega) (by omega) (by omega) hRm, ⟨TXG_fr F (by omega) (by omega) (by omega) (by omega) s1, ROG_fr F (fun i h1 h2 => by omega) (fun i h1 h2 => by omega) s2, JNK_fr F (fun i h1 h2 => by omega) (by omega) (by omega) s3, od, OUD_fr F (by omega) s4⟩, LG_fr F (by omega) (by omega) (by omega) hG, IA_fr F (by omega) hi1, IA_fr F (by omega) hj1, hJS, hb', Or.inl ⟨z1, rfl, hx, OUT_fr F (by omega) hO, CMN_fr F (fun i h1 h2 => by omega) (by omega) (by omega) (by omega) hC, hJ, hb⟩⟩
  · have hle1 : X1_hasMatch_x0 le' = 1 := by
      rcases hE.1.2 with z | z <;> rw [z] <;> rfl
    have v2 : ¬ X1_hasMatch_x0 le' = 0 := by rw [hle1]; decide
    have frv : ∀ {v : Hf}, hFrL f v (MA (AM AD) 0 ++ [AD 109, AD (109 + 2), AD (109 + 3)]) → FR AD f v IM := fun {v} hf => by
      refine FR_mk hA hf (fun y hy => ?_) (fun i hi9 => ?_)
      · rcases List.mem_append.mp hy with z | z
        · obtain ⟨j, hj, e⟩ := MA_ix z
          exact ⟨0 + j + 1, by unfold IM; omega, e⟩
        · simp only [List.mem_cons, List.not_mem_nil, or_false] at z
          rcases z with z | z | z
          · exact ⟨109, by unfold IM; omega, z⟩
          · exact ⟨111, by unfold IM; omega, z⟩
          · exact ⟨112, by unfold IM; omega, z⟩
      · rcases hi9 with z | z | z | z
        · exact nsc_m hM (by omega)
        · subst z; exact nsc_r h1 (by decide)
        · subst z; exact nsc_a h3
        · subst z; exact nsc_a h2
    refine h_conH (w_restore hfl (gl := o) (X := hNo) hX (fun sz => h_mono (c_X8_restoreY hfl (x := AD 0) (A := AM AD) (b := 0) (b2 := 54) (q := q) hX h1 h3 h2 t1 t3 t2 (AM_ne hA) hM hA.2.1 (nMA hA (by omega)) (nMA hA (by omega)) (nMA hA (by omega)) (nMA hA (by omega)) v2 hle1 (AD_ne hA (by omega)) (AD_ne hA (by omega)) (AD_ne hA (by omega)) hE.2.1 t4 (JL_pp hE.1 hE.2.1 hE.2.2.1 cm cs)) (Nat.le_of_ble_eq_true rfl) (Nat.le_of_ble_eq_true rfl) (Nat.le_of_ble_eq_true rfl) (Nat.le_of_ble_eq_true rfl)) (fun _ _ h => False.elim h) (fun v9 u9 hp => OUT_fr (frv hp.2.2.2.2.2) (by unfold IM; omega) hO)) ?_
    intro r u hp
    rcases hp with ⟨rfl, v9, u9, ⟨e9, y1, y2, y3, y4, y5⟩, hu⟩ | ⟨rfl, hx⟩
    · have F1 := frv y5
      have O1 : OUT AD cy u9 o := OUT_fr F1 (by unfold IM; omega) hO
      obtain ⟨F2, O2⟩ := FR_up hA (nsc_a O1) hu
      rw [e9] at O2
      have C1 : CMN AD cy q u9 (fl SS' (foM cm le' lfi') (foS cs lo' le') nS').1 (fl SS' (foM cm le' lfi') (foS cs lo' le') nS').2 lo' le' lfi' 0 nS' nC' (X8_restoreY_g1 ge ge') SS' := ⟨y4, y1, y3, cpq qs' qs nS', sq', y2, fun j hj => ⟨by unfold cpq; rw [if_pos hj]; exact (t4 j hj).1, F1.2 _ _ (t4 j hj).2⟩⟩
      have F : FR AD f u (fun i => IM i ∨ i = 138) := FR_trans F1 F2
      exact ⟨hA, xa, xr, xk, hi, th, tl, w, nS, nC, cm, cs, lo, le, lfi, ge, SS, g, gp, gd, o, lo', le', lfi', lun', nS', nC', ge', SS', gi, gj, MC_fr F (by unfold IM; omega) hMc, RMN_fr F (by unfold IM; omega) (by unfold IM; omega) (by unfold IM; omega) hRm, ⟨TXG_fr F (by unfold IM; omega) (by unfold IM; omega) (by unfold IM; omega) (by unfold IM; omega) s1, ROG_fr F (fun i h1 h2 => by unfold IM; omega) (fun i h1 h2 => by unfold IM; omega) s2, JNK_fr F (fun i h1 h2 => by unfold IM; omega) (by unfold IM; omega) (by unfold IM; omega) s3, od, OUD_fr F (by unfold IM; omega) s4⟩, LG_fr F (by unfold IM; omega) (by unfold IM; omega) (by unfold IM; omega) hG, IA_fr F (by unfold IM; omega) hi1, IA_fr F (by unfold IM; omega) hj1, hJS, hb', Or.inr ⟨z1, rfl, XC_fr F (by unfold IM; omega) hX, O2, _, CMN_fr F2 (fun i h1 h2 => by omega) (by omega) (by omega) (by omega) C1, fun c hc => cpy_at hc⟩⟩
    · exact False.elim hx
set_option maxRecDepth 100000 in
theorem kR_restore {l : Launch} (hfl : l.stackTraces = false) {D : va_G} {cy : Nat → ClassId} {f : Hf} {sz : Nat} {AD : Nat → Nat} {q q2 : Nat → Option Nat} {k : Nat} {r : Int32} (h : MIDV AD cy q q2 k r f) : hMet l yX9_restore cX9_restore 1 (some .int) { frames := 6, cells := 0, slots := 0, locals := 158 } D (hTy cy) f sz [.ref (AD 125)] (hQi (fun b u => ∃ o, WJ AD cy q q2 (k + 1) r o u ∧ (r = 0 → o 0 = b.toInt64)) D f sz) hNo := by
  obtain ⟨hA, xa, xr, xk, hi, th, tl, w, nS, nC, cm, cs, lo, le, lfi, ge, SS, g, gp, gd, o, lo', le', lfi', lun', nS', nC', ge', SS', gi, gj, hMc, hRm, ⟨s1, s2, s3, od, s4⟩, hG, hi1, hj1, hJS, hb', hc⟩ := h
  obtain ⟨ps, pl, to, hm⟩ := id hMc
  obtain ⟨h23, hn5⟩ := JS_23 hJS
  refine h_conI (h_mono (k_X9_restore hfl (d := nS') hm hRm.1 hi1 hRm.2.2 hj1 h23 (by omega) (AD_ne hA (by omega)) (AD_ne hA (by omega))) (Nat.le_of_ble_eq_true rfl) (Nat.le_of_ble_eq_true rfl) (Nat.le_of_ble_eq_true rfl) (Nat.le_of_ble_eq_true rfl)) ?_ (fun _ _ h => h)
  intro b u hp
  obtain ⟨er, em, ev, ed, ef⟩ := hp
  have F : FR AD f u (fun i => i = 125 ∨ i = 126 ∨ i = 130) := by
    refine FR_mk hA ef (fun y hy => ?_) (fun i hi9 => ?_)
    · simp only [List.mem_cons, List.not_mem_nil, or_false] at hy
      rcases hy with z | z | z
      · exact ⟨125, by omega, z⟩
      · exact ⟨126, by omega, z⟩
      · exact ⟨130, by omega, z⟩
    · rcases hi9 with z | z | z
      · subst z; exact nsc_r hm (by decide)
      · subst z; exact nsc_a hRm.1
      · subst z; exact nsc_a hRm.2.2
  have k1 : TXG AD cy u tl := TXG_fr F (by omega) (by omega) (by omega) (by omega) s1
  have k2 : ROG AD cy u := ROG_fr F (fun i h1 h2 => by omega) (fun i h1 h2 => by omega) s2
  have k3 : JNK AD cy q2 u := JNK_fr F (fun i h1 h2 => by omega) (by omega) (by omega) s3
  have k4 : OUD AD cy u od := OUD_fr F (by omega) s4
  have kS : SVG AD cy u hi tl (k + 1) := ⟨lo', le', lfi', lun', nS', nC', ge', SS', gi, gj, LG_fr F (by omega) (by omega) (by omega) hG, IA_fr F (by omega) hi1, IA_fr F (by omega) hj1, hJS, by omega⟩
  have up : IA AD cy u 129 51528 gp := IA_fr F (by omega) hRm.2.1
  rcases hc with ⟨rfl, rfl, c3, c5, c6, c7, c8⟩ | ⟨rfl, rfl, c3, c5, gf, c6, c7⟩
  · exact ⟨o, ⟨hA, xa, xr, 7, 0, tl, w, nS, nC, cm, cs, lo, le, lfi, ge, SS, g, gp, gd, XC_fr F (by omega) c3, ⟨_, _, _, em⟩, CMN_fr F (fun i h1 h2 => by omega) (by omega) (by omega) (by omega) c6, ⟨ev, up, ed⟩, ⟨kS, k1, k2, k3, od, k4⟩, OUT_fr F (by omega) c5, c7, by omega⟩, fun z => absurd z (by decide)⟩
  · rcases hJS with ⟨z, -⟩ | ⟨-, E, hE⟩
    · exact absurd z (by decide)
    · have er2 : b = nI nC' := er.trans hE.2.2.2.1
      refine ⟨_, ⟨hA, xa, xr, xk, 1, tl, 0, nS', nC', _, _, lo', le', lfi', gf, SS', _, gp, _, XC_fr F (by omega) c3, ⟨_, _, _, em⟩, CMN_fr F (fun i h1 h2 => by omega) (by omega) (by omega) (by omega) c6, ⟨ev, up, ed⟩, ⟨kS, k1, k2, k3, od, k4⟩, OUT_fr F (by omega) c5, Or.inr (JL_back (JLOG_cp hE c7 (fun _ _ => rfl) (fun p hp => cps_at hp) (fun p hp => cps_at hp)) cm cs), by omega⟩, fun _ => ?_⟩
      rw [er2]; exact if_pos rfl
