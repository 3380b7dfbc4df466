/-! SNAPSHOT -/
theorem cpy_at {α : Type} {f g : Nat → α} {c : Nat} (h : c < 512) : va_cpy f g 0 0 512 c = f c := by
  unfold va_cpy
  rw [if_pos ⟨Nat.zero_le _, by omega⟩]
  exact congrArg f (by omega)
theorem cps_at {n p : Nat} {a b : Nat → Int32} (h : p < n) : X9_copies_g0 n a b p = a p := if_pos h
/-- the deeds of the reference's row are the steps of the log -/
theorem JM_23 {cm : Nat → Int32} {cs : Nat → Nat → Nat → Int32} {lo le lfi : Int32} {w nS nC : Nat} {ge : Nat → Int32} {SS : Nat → Nat → Int32} {g gp gd : Nat → Int32} (h : JM cm cs lo le lfi w nS nC ge SS g gp gd) : g 23 = nI nS := by
  rcases h with ⟨-, -, hg, h1, -⟩ | h
  · rw [hg 23 (by omega), h1]; rfl
  · obtain ⟨n, SB, RP, RF, OC, ⟨b1, b2, b3, b4, b5, b6, b7, b8, b9, b10⟩, -⟩ := JL_RR h
    exact b10
/-- between the two calls of snapshot -/
def MIDS (AD : Nat → Nat) (cy : Nat → ClassId) (q q2 : Nat → Option Nat) (k : Nat) (r : Int32) (u : Hf) : Prop := AOK AD q q2 ∧ ∃ (xa xr xk hi th : Int32) (tl w nS nC : Nat) (cm : Nat → Int32) (cs : Nat → Nat → Nat → Int32) (lo le lfi : Int32) (ge : Nat → Int32) (SS : Nat → Nat → Int32) (g gp gd : Nat → Int32) (o : Nat → Int64) (gi gj : Nat → Int32), MC AD u th xk (nI w) hi (nI tl) xa xr ∧ CMN AD cy q u cm cs lo le lfi w nS nC ge SS ∧ RMN AD cy u g gp gd ∧ (TXG AD cy u tl ∧ ROG AD cy u ∧ JNK AD cy q2 u ∧ ∃ od, OUD AD cy u od) ∧ JM cm cs lo le lfi w nS nC ge SS g gp gd ∧ nS + tl ≤ k ∧ IA AD cy u 127 6441 gi ∧ IA AD cy u 131 24000 gj ∧ ((le = 0 ∧ r = 1 ∧ XC AD u xa xr 1 ∧ OUT AD cy u o ∧ ∃ (lo' le' lfi' lun' : Int32) (nS' nC' : Nat) (ge' : Nat → Int32) (SS' : Nat → Nat → Int32), LG AD cy 113 u lo' le' lfi' nS' nC' lun' ge' SS' ∧ JS hi lo' le' lfi' nS' nC' ge' SS' gi gj ∧ nS' + tl ≤ k) ∨ (¬ le = 0 ∧ r = 0 ∧ XC AD u xa xr xk ∧ OUT AD cy u (vp_updL o 0 (nI nC).toInt64) ∧ ∃ ge' : Nat → Int32, LG AD cy 113 u lo le lfi nS nC 0 ge' SS ∧ ∀ c, c < 512 → ge' c = ge c))
def IV (i : Nat) : Prop := i = 113 ∨ i = 115 ∨ i = 116
set_option maxRecDepth 100000 in
theorem kL_snapshot {l : Launch} (hfl : l.stackTraces = false) {D : va_G} {cy : Nat → ClassId} {f : Hf} {sz : Nat} {AD : Nat → Nat} {q q2 : Nat → Option Nat} {k : Nat} {th : Int32} {o : Nat → Int64} (h : WJ AD cy q q2 k th o f) : hMetH l yL_snapshot cL_snapshot 3 (some .int) [((0 : Nat), (8 : Nat), (11 : Nat), (21 : Nat))] { frames := 9, cells := 64, slots := 600, locals := 170 } D (hTy cy) f sz [.ref (AD 0), .ref (AD 138)] (hQi (fun r u => MIDS AD cy q q2 k r u) D f sz) hNo := by
  obtain ⟨hA, xa, xr, xk, hi, tl, w, nS, nC, cm, cs, lo, le, lfi, ge, SS, g, gp, gd, hX, hMc, hC, hRm, hRs, hO, hJ, hb⟩ := h
  obtain ⟨hM, h1, h2, qs, sq, h3, h4⟩ := id hC
  obtain ⟨⟨lo', le', lfi', lun', nS', nC', ge', SS', gi, gj, hG, hi1, hj1, hJS, hb'⟩, hRs2⟩ := hRs
  obtain ⟨t1, t2, qs', sq', t3, t4⟩ := id hG
  obtain ⟨s1, s2, s3, od, s4⟩ := hRs2
  rcases JM_le hJ with ⟨v1, hle, -, -⟩ | ⟨v1, hle, -, hL⟩
  · refine h_conH (w_snapshot hfl (gl := o) (P := fun _ _ => False) hX (fun sz => h_mono (c_X8_snapshotN hfl (x := AD 0) (A := AM AD) (b := 0) (b2 := 54) hX h1 h3 h2 v1) (Nat.le_of_ble_eq_true rfl) (Nat.le_of_ble_eq_true rfl) (Nat.le_of_ble_eq_true rfl) (Nat.le_of_ble_eq_true rfl)) (fun E u hx => hx.1) (fun v w h => h.elim)) ?_
    intro r u hp
    rcases hp with ⟨rfl, v9, w9, hf, -⟩ | ⟨rfl, -, hx, hfr⟩
    · exact hf.elim
    · have F := fr_x hA hX hfr
      exact ⟨hA, xa, xr, xk, hi, th, tl, w, nS, nC, cm, cs, lo, le, lfi, ge, SS, g, gp, gd, o, gi, gj, MC_fr F (by omega) hMc, CMN_fr F (fun i h1 h2 => by omega) (by omega) (by omega) (by omega) hC, RMN_fr F (by omega) (by omega) (by omega) hRm, ⟨TXG_fr F (by omega) (by omega) (by omega) (by omega) s1, ROG_fr F (fun i h1 h2 => by omega) (fun i h1 h2 => by omega) s2, JNK_fr F (fun i h1 h2 => by omega) (by omega) (by omega) s3, od, OUD_fr F (by omega) s4⟩, hJ, hb, IA_fr F (by omega) hi1, IA_fr F (by omega) hj1, Or.inl ⟨hle, rfl, hx, OUT_fr F (by omega) hO, lo', le', lfi', lun', nS', nC', ge', SS', LG_fr F (by omega) (by omega) (by omega) hG, hJS, hb'⟩⟩
  · have v2 : ¬ X1_hasMatch_x0 le = 0 := by rw [v1]; decide
    have hn5 : nS ≤ 512 := by
      obtain ⟨⟨E, hE, -⟩, -⟩ := hL
      exact hE.2.1
    have frv : ∀ {v : Hf}, hFrL f v [AD 113, AD (113 + 2), AD (113 + 3)] → FR AD f v IV := fun {v} hf => by
      refine FR_mk hA hf (fun y hy => ?_) (fun i hi9 => ?_)
      · simp only [List.mem_cons, List.not_mem_nil, or_false] at hy
        rcases hy with z | z | z
        · exact ⟨113, by unfold IV; omega, z⟩
        · exact ⟨115, by unfold IV; omega, z⟩
        · exact ⟨116, by unfold IV; omega, z⟩
      · rcases hi9 with z | z | z
        · subst z; exact nsc_r t1 (by decide)
        · subst z; exact nsc_a t3
        · subst z; exact nsc_a t2
    refine h_conH (w_snapshot hfl (gl := o) (X := hNo) hX (fun sz => h_mono (c_X8_snapshotY hfl (x := AD 0) (A := AM AD) (b := 0) (b2 := 54) hX h1 h3 h2 t1 t3 t2 v2 (AD_ne hA (by omega)) (AD_ne hA (by omega)) (AD_ne hA (by omega)) hn5 h4) (Nat.le_of_ble_eq_true rfl) (Nat.le_of_ble_eq_true rfl) (Nat.le_of_ble_eq_true rfl) (Nat.le_of_ble_eq_true rfl)) (fun _ _ h => False.elim h) (fun v9 u9 hp => OUT_fr (frv hp.2.2.2.2) (by unfold IV; omega) hO)) ?_
    intro r u hp
    rcases hp with ⟨rfl, v9, u9, ⟨e9, y1, y2, y3, y5⟩, hu⟩ | ⟨rfl, hx⟩
    · have F1 := frv y5
      have O1 : OUT AD cy u9 o := OUT_fr F1 (by unfold IV; omega) hO
      obtain ⟨F2, O2⟩ := FR_up hA (nsc_a O1) hu
      rw [e9] at O2
      have G1 : LG AD cy 113 u9 lo le lfi nS nC 0 (X8_snapshotY_g1 ge ge') SS := ⟨y1, y3, cpq qs qs' nS, sq, y2, fun j hj => ⟨by unfold cpq; rw [if_pos hj]; exact (h4 j hj).1, F1.2 _ _ (h4 j hj).2⟩⟩
      have F : FR AD f u (fun i => IV i ∨ i = 138) := FR_trans F1 F2
      exact ⟨hA, xa, xr, xk, hi, th, tl, w, nS, nC, cm, cs, lo, le, lfi, ge, SS, g, gp, gd, o, gi, gj, MC_fr F (by unfold IV; omega) hMc, CMN_fr F (fun i h1 h2 => by unfold IV; omega) (by unfold IV; omega) (by unfold IV; omega) (by unfold IV; omega) hC, RMN_fr F (by unfold IV; omega) (by unfold IV; omega) (by unfold IV; omega) hRm, ⟨TXG_fr F (by unfold IV; omega) (by unfold IV; omega) (by unfold IV; omega) (by unfold IV; omega) s1, ROG_fr F (fun i h1 h2 => by unfold IV; omega) (fun i h1 h2 => by unfold IV; omega) s2, JNK_fr F (fun i h1 h2 => by unfold IV; omega) (by unfold IV; omega) (by unfold IV; omega) s3, od, OUD_fr F (by unfold IV; omega) s4⟩, hJ, hb, IA_fr F (by unfold IV; omega) hi1, IA_fr F (by unfold IV; omega) hj1, Or.inr ⟨hle, rfl, XC_fr F (by unfold IV; omega) hX, O2, _, LG_fr F2 (by omega) (by omega) (by omega) G1, fun c hc => cpy_at hc⟩⟩
    · exact False.elim hx
set_option maxRecDepth 100000 in
theorem kR_snapshot {l : Launch} (hfl : l.stackTraces = false) {D : va_G} {cy : Nat → ClassId} {f : Hf} {sz : Nat} {AD : Nat → Nat} {q q2 : Nat → Option Nat} {k : Nat} {r : Int32} (h : MIDS AD cy q q2 k r f) : hMet l yX9_snapshot cX9_snapshot 1 (some .int) { frames := 6, cells := 0, slots := 0, locals := 158 } D (hTy cy) f sz [.ref (AD 125)] (hQi (fun b u => ∃ o, WJ AD cy q q2 (k + 1) r o u ∧ (r = 0 → o 0 = b.toInt64)) D f sz) hNo := by
  obtain ⟨hA, xa, xr, xk, hi, th, tl, w, nS, nC, cm, cs, lo, le, lfi, ge, SS, g, gp, gd, o, gi, gj, hMc, hC, hRm, ⟨s1, s2, s3, od, s4⟩, hJ, hb, hi1, hj1, hc⟩ := h
  obtain ⟨ps, pl, to, hm⟩ := id hMc
  have hn5 : nS ≤ 512 := by
    rcases hJ with ⟨-, -, -, z, -⟩ | ⟨⟨E, hE, -⟩, -⟩
    · omega
    · exact hE.2.1
  refine h_conI (h_mono (k_X9_snapshot hfl (d := nS) hm hRm.1 hi1 hRm.2.2 hj1 (JM_23 hJ) (by omega) (AD_ne hA (by omega)) (AD_ne hA (by omega)) (AD_ne hA (by omega))) (Nat.le_of_ble_eq_true rfl) (Nat.le_of_ble_eq_true rfl) (Nat.le_of_ble_eq_true rfl) (Nat.le_of_ble_eq_true rfl)) ?_ (fun _ _ h => h)
  intro b u hp
  obtain ⟨er, em, ei, ej, ef⟩ := hp
  have F : FR AD f u (fun i => i = 125 ∨ i = 127 ∨ i = 131) := by
    refine FR_mk hA ef (fun y hy => ?_) (fun i hi9 => ?_)
    · simp only [List.mem_cons, List.not_mem_nil, or_false] at hy
      rcases hy with z | z | z
      · exact ⟨125, by omega, z⟩
      · exact ⟨127, by omega, z⟩
      · exact ⟨131, by omega, z⟩
    · rcases hi9 with z | z | z
      · subst z; exact nsc_r hm (by decide)
      · subst z; exact nsc_a hi1
      · subst z; exact nsc_a hj1
  have kC : CMN AD cy q u cm cs lo le lfi w nS nC ge SS := CMN_fr F (fun i h1 h2 => by omega) (by omega) (by omega) (by omega) hC
  have kR : RMN AD cy u g gp gd := RMN_fr F (by omega) (by omega) (by omega) hRm
  have k1 : TXG AD cy u tl := TXG_fr F (by omega) (by omega) (by omega) (by omega) s1
  have k2 : ROG AD cy u := ROG_fr F (fun i h1 h2 => by omega) (fun i h1 h2 => by omega) s2
  have k3 : JNK AD cy q2 u := JNK_fr F (fun i h1 h2 => by omega) (by omega) (by omega) s3
  have k4 : OUD AD cy u od := OUD_fr F (by omega) s4
  rcases hc with ⟨c1, rfl, c3, c5, lo', le', lfi', lun', nS', nC', ge', SS', hG, hJS, hb'⟩ | ⟨c1, rfl, c3, c5, ge', hG, hge⟩
  · have hg0 : g 0 = 0 := by
      rcases JM_le hJ with ⟨-, -, z, -⟩ | ⟨-, z, -⟩
      · exact z
      · exact absurd c1 z
    have hx : X9_hasMatch_r0 g = 0 := by unfold X9_hasMatch_r0; rw [hg0]; rfl
    rw [show X9_hasMatch_x1 0 g 1 = 1 from by unfold X9_hasMatch_x1; rw [hg0]; rfl, show X9_hasMatch_x2 xk g = 1 from by unfold X9_hasMatch_x2; rw [hg0]; rfl, show X9_snapshot_x1 hi g = hi from if_pos hx] at em
    rw [show X9_snapshot_g2 g gi = gi from if_pos hx] at ei
    rw [show X9_snapshot_g3 g gd gj nS = gj from if_pos hx] at ej
    exact ⟨o, ⟨hA, xa, xr, 1, hi, tl, w, nS, nC, cm, cs, lo, le, lfi, ge, SS, g, gp, gd, XC_fr F (by omega) c3, ⟨_, _, _, em⟩, kC, kR, ⟨⟨lo', le', lfi', lun', nS', nC', ge', SS', gi, gj, LG_fr F (by omega) (by omega) (by omega) hG, ei, ej, hJS, by omega⟩, k1, k2, k3, od, k4⟩, OUT_fr F (by omega) c5, hJ, by omega⟩, fun z => absurd z (by decide)⟩
  · have hgL : g 0 = 1 ∧ JL cm cs lo le lfi w nS nC ge SS g gp gd := by
      rcases JM_le hJ with ⟨-, z, -⟩ | ⟨-, -, z, z2⟩
      · exact absurd z c1
      · exact ⟨z, z2⟩
    obtain ⟨⟨E, hE, -⟩, -⟩ := hgL.2
    have hx : ¬ X9_hasMatch_r0 g = 0 := by unfold X9_hasMatch_r0; rw [if_pos hgL.1]; decide
    rw [show X9_hasMatch_x1 0 g 1 = 0 from if_pos hgL.1, show X9_hasMatch_x2 xk g = xk from if_pos hgL.1, show X9_snapshot_x1 hi g = 1 from if_neg hx] at em
    rw [show X9_snapshot_g2 g gi = X9_copies_g0 6441 g gi from if_neg hx] at ei
    rw [show X9_snapshot_g3 g gd gj nS = X9_copies_g0 (6 * nS) gd gj from if_neg hx] at ej
    rw [show X9_snapshot_r0 g = g 24 from if_neg hx, hE.2.2.2.1] at er
    refine ⟨_, ⟨hA, xa, xr, xk, 1, tl, w, nS, nC, cm, cs, lo, le, lfi, ge, SS, g, gp, gd, XC_fr F (by omega) c3, ⟨_, _, _, em⟩, kC, kR, ⟨⟨lo, le, lfi, 0, nS, nC, ge', SS, _, _, LG_fr F (by omega) (by omega) (by omega) hG, ei, ej, Or.inr ⟨rfl, E, JLOG_cp hE hge (fun _ _ => rfl) (fun p hp => cps_at hp) (fun p hp => cps_at hp)⟩, by omega⟩, k1, k2, k3, od, k4⟩, OUT_fr F (by omega) c5, hJ, by omega⟩, fun _ => ?_⟩
    rw [er]; exact if_pos rfl
