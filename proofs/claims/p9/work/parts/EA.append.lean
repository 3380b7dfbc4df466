/-! A SIGN IS APPENDED -/
theorem nar_c : ∀ m, m < 127 → vp_nar .char (nI m) = nI m := by decide
theorem nar_v : ∀ m, m < 127 → narrow .char (.int (nI m)) = .int (nI m) := by
  intro m hm
  have h := nar_c m hm
  have h2 : narrow .char (.int (nI m)) = .int (vp_nar .char (nI m)) := rfl
  rw [h2, h]
theorem SVG_up {AD : Nat → Nat} {cy : Nat → ClassId} {f : Hf} {hi : Int32} {tl k : Nat} (h : SVG AD cy f hi tl k) : SVG AD cy f hi (tl + 1) (k + 1) := by
  obtain ⟨lo, le, lfi, lun, nS, nC, ge, SS, gi, gj, a1, a2, a3, a4, a5⟩ := h
  exact ⟨lo, le, lfi, lun, nS, nC, ge, SS, gi, gj, a1, a2, a3, a4, by omega⟩
theorem CHR_up {tl : Nat} {gb gx : Nat → Int32} {x : Int32} (h : CHR tl gb gx) (ht : tl < 60) (hx : ¬ X8_isWithin_x1 x 32 126 = 0) (hn : ∀ k : Nat, narrow .char (.int (gb k)) = .int (gb k)) : CHR (tl + 1) (upd gb tl (vp_nar .char x)) (upd gx tl x) ∧ ∀ k : Nat, narrow .char (.int (upd gb tl (vp_nar .char x) k)) = .int (upd gb tl (vp_nar .char x) k) := by
  obtain ⟨h1, h2⟩ := wi_in hx
  obtain ⟨m, hm, rfl⟩ := in_nat (n := 126) (by omega) (Int32.le_trans (by decide) h1) h2
  have m1 := (nI_leI (a := 32) (b := m) (by omega) (by omega)).mp h1
  rw [nar_c m (by omega)]
  refine ⟨⟨by omega, fun j hj => ?_⟩, fun k => ?_⟩
  · by_cases e : j = tl
    · subst e
      rw [upd_at, upd_at]
      exact ⟨⟨m - 32, by omega, congrArg nI (by omega)⟩, rfl⟩
    · rw [upd_off e, upd_off e]
      exact h.2 j (by omega)
  · by_cases e : k = tl
    · subst e
      rw [upd_at]; exact nar_v m (by omega)
    · rw [upd_off e]; exact hn k
def MIDP (AD : Nat → Nat) (cy : Nat → ClassId) (q q2 : Nat → Option Nat) (k : Nat) (p0 r : Int32) (u : Hf) : Prop := AOK AD q q2 ∧ ∃ (xa xr xk hi th : Int32) (tl w nS nC : Nat) (cm : Nat → Int32) (cs : Nat → Nat → Nat → Int32) (lo le lfi : Int32) (ge : Nat → Int32) (SS : Nat → Nat → Int32) (g gp gd : Nat → Int32) (o : Nat → Int64) (gb gx : Nat → Int32), XC AD u xa xr xk ∧ MC AD u th xk (nI w) hi (nI tl) xa xr ∧ CMN AD cy q u cm cs lo le lfi w nS nC ge SS ∧ RMN AD cy u g gp gd ∧ (SVG AD cy u hi tl k ∧ ROG AD cy u ∧ JNK AD cy q2 u ∧ ∃ od, OUD AD cy u od) ∧ JM cm cs lo le lfi w nS nC ge SS g gp gd ∧ nS + tl ≤ k ∧ IA AD cy u 132 60 gx ∧ CHR tl gb gx ∧ (∀ k : Nat, narrow .char (.int (gb k)) = .int (gb k)) ∧ ((X8_isWithin_x1 p0 32 126 = 0 ∧ r = 1 ∧ TXC AD cy u tl gb ∧ OUT AD cy u o) ∨ (¬ X8_isWithin_x1 p0 32 126 = 0 ∧ tl = 60 ∧ r = 2 ∧ TXC AD cy u tl gb ∧ OUT AD cy u o) ∨ (¬ X8_isWithin_x1 p0 32 126 = 0 ∧ tl < 60 ∧ r = 0 ∧ TXC AD cy u (tl + 1) (upd gb tl (vp_nar .char p0)) ∧ OUT AD cy u (vp_updL o 0 (nI (tl + 1)).toInt64)))
theorem fr_t {AD : Nat → Nat} {q q2 : Nat → Option Nat} {cy : Nat → ClassId} {f u : Hf} {tl : Nat} {gb : Nat → Int32} (hA : AOK AD q q2) (hT : TXC AD cy f tl gb) (h : hFrL f u [AD 118, AD 117]) : FR AD f u (fun i => i = 117 ∨ i = 118) := by
  obtain ⟨⟨tc, t1⟩, t2, -⟩ := hT
  refine FR_mk hA h (fun y hy => ?_) (fun i hi9 => ?_)
  · simp only [List.mem_cons, List.not_mem_nil, or_false] at hy
    rcases hy with z | z
    · exact ⟨118, by omega, z⟩
    · exact ⟨117, by omega, z⟩
  · rcases hi9 with z | z
    · subst z; exact nsc_r t1 (by decide)
    · subst z; exact nsc_a t2
theorem full_x {tl : Nat} (h : tl ≤ 60) : (X7_isFull_x0 tl = 0 ↔ tl < 60) := by
  unfold X7_isFull_x0
  by_cases z : nI tl < 60
  · rw [if_pos z]; exact ⟨fun _ => (nI_ltI (a := tl) (b := 60) (by omega) (by omega)).mp z, fun _ => rfl⟩
  · rw [if_neg z]; exact ⟨fun c => absurd c (by decide), fun c => absurd ((nI_ltI (a := tl) (b := 60) (by omega) (by omega)).mpr c) z⟩
set_option maxRecDepth 100000 in
theorem kL_append {l : Launch} (hfl : l.stackTraces = false) {D : va_G} {cy : Nat → ClassId} {f : Hf} {sz : Nat} {AD : Nat → Nat} {q q2 : Nat → Option Nat} {k : Nat} {th : Int32} {o : Nat → Int64} (p0 : Int32) (h : WJ AD cy q q2 k th o f) : hMetH l yL_append cL_append 4 (some .int) [((0 : Nat), (9 : Nat), (12 : Nat), (13 : Nat)), ((0 : Nat), (9 : Nat), (15 : Nat), (49 : Nat))] { frames := 9, cells := 64, slots := 600, locals := 170 } D (hTy cy) f sz [.ref (AD 0), .int p0, .ref (AD 138)] (hQi (fun r u => MIDP AD cy q q2 k p0 r u) D f sz) hNo := by
  obtain ⟨hA, xa, xr, xk, hi, tl, w, nS, nC, cm, cs, lo, le, lfi, ge, SS, g, gp, gd, hX, hMc, hC, hRm, hRs, hO, hJ, hb⟩ := h
  obtain ⟨hS1, ⟨gb, gx, hT, hT2, hT3, hT4⟩, hRs3⟩ := hRs
  obtain ⟨⟨tc, t1⟩, t2, qp, t3⟩ := id hT
  by_cases v0 : X8_isWithin_x1 p0 32 126 = 0
  · refine h_conH (w_append hfl (gl := o) (P := fun _ _ => False) (X := fun E u => E = "java/lang/IllegalArgumentException" ∧ u = f) hX (fun sz => h_mono (c_X8_appendB hfl p0 (x := AD 0) (A := AM AD) (b := 0) (b2 := 54) hX v0) (Nat.le_of_ble_eq_true rfl) (Nat.le_of_ble_eq_true rfl) (Nat.le_of_ble_eq_true rfl) (Nat.le_of_ble_eq_true rfl)) (fun E u hx => Or.inl hx.1) (fun v w h => h.elim)) ?_
    intro r u hp
    rcases hp with ⟨rfl, v9, w9, hf, -⟩ | ⟨rfl, -, rfl⟩ | ⟨rfl, hx, -⟩
    · exact hf.elim
    · exact ⟨hA, xa, xr, xk, hi, th, tl, w, nS, nC, cm, cs, lo, le, lfi, ge, SS, g, gp, gd, o, gb, gx, hX, hMc, hC, hRm, ⟨hS1, hRs3⟩, hJ, hb, hT2, hT3, hT4, Or.inl ⟨v0, rfl, hT, hO⟩⟩
    · exact absurd hx (by decide)
  by_cases v1 : X7_isFull_x0 tl = 0
  · have v2 := (full_x hT3.1).mp v1
    refine h_conH (w_append hfl (gl := o) (X := hNo) hX (fun sz => h_mono (c_X8_appendA hfl p0 (x := AD 0) (A := AM AD) (b := 0) (b2 := 54) hX t1 t2 t3 v0 v2 v1) (Nat.le_of_ble_eq_true rfl) (Nat.le_of_ble_eq_true rfl) (Nat.le_of_ble_eq_true rfl) (Nat.le_of_ble_eq_true rfl)) (fun _ _ h => False.elim h) (fun v9 u9 hp => OUT_fr (fr_t hA hT hp.2.2.2) (by omega) hO)) ?_
    intro r u hp
    rcases hp with ⟨rfl, v9, u9, ⟨e9, y1, y2, y5⟩, hu⟩ | ⟨rfl, hx⟩ | ⟨rfl, hx⟩
    · have F1 := fr_t hA hT y5
      have O1 : OUT AD cy u9 o := OUT_fr F1 (by omega) hO
      obtain ⟨F2, O2⟩ := FR_up hA (nsc_a O1) hu
      have F := FR_trans F1 F2
      rw [e9] at O2
      have T1 : TXC AD cy u9 (tl + 1) (upd gb tl (vp_nar .char p0)) := ⟨⟨tc, y2⟩, y1, qp, F1.1 120 _ (by omega) t3⟩
      obtain ⟨s2, s3, od, s4⟩ := hRs3
      exact ⟨hA, xa, xr, xk, hi, th, tl, w, nS, nC, cm, cs, lo, le, lfi, ge, SS, g, gp, gd, o, gb, gx, XC_fr F (by omega) hX, MC_fr F (by omega) hMc, CMN_fr F (fun i h1 h2 => by omega) (by omega) (by omega) (by omega) hC, RMN_fr F (by omega) (by omega) (by omega) hRm, ⟨SVG_fr F (by omega) (by omega) (by omega) (by omega) (by omega) (Nat.le_refl _) hS1, ROG_fr F (fun i h1 h2 => by omega) (fun i h1 h2 => by omega) s2, JNK_fr F (fun i h1 h2 => by omega) (by omega) (by omega) s3, od, OUD_fr F (by omega) s4⟩, hJ, hb, IA_fr F (by omega) hT2, hT3, hT4, Or.inr (Or.inr ⟨v0, v2, rfl, TXC_fr F2 (by omega) (by omega) (by omega) T1, O2⟩)⟩
    · exact False.elim hx
    · exact False.elim hx
  · have v2 : tl = 60 := by
      have z1 := hT3.1
      have z2 : ¬ tl < 60 := fun z => v1 ((full_x hT3.1).mpr z)
      omega
    refine h_conH (w_append hfl (gl := o) (P := fun _ _ => False) (X := fun E u => E = "java/lang/UnsupportedOperationException" ∧ u = f) hX (fun sz => h_mono (c_X8_appendF hfl p0 (x := AD 0) (A := AM AD) (b := 0) (b2 := 54) hX t1 t2 t3 v0 hT3.1 v1) (Nat.le_of_ble_eq_true rfl) (Nat.le_of_ble_eq_true rfl) (Nat.le_of_ble_eq_true rfl) (Nat.le_of_ble_eq_true rfl)) (fun E u hx => Or.inr hx.1) (fun v w h => h.elim)) ?_
    intro r u hp
    rcases hp with ⟨rfl, v9, w9, hf, -⟩ | ⟨rfl, hx, -⟩ | ⟨rfl, -, rfl⟩
    · exact hf.elim
    · exact absurd hx (by decide)
    · exact ⟨hA, xa, xr, xk, hi, th, tl, w, nS, nC, cm, cs, lo, le, lfi, ge, SS, g, gp, gd, o, gb, gx, hX, hMc, hC, hRm, ⟨hS1, hRs3⟩, hJ, hb, hT2, hT3, hT4, Or.inr (Or.inl ⟨v0, v2, rfl, hT, hO⟩)⟩
set_option maxRecDepth 100000 in
theorem kR_append {l : Launch} (hfl : l.stackTraces = false) {D : va_G} {cy : Nat → ClassId} {f : Hf} {sz : Nat} {AD : Nat → Nat} {q q2 : Nat → Option Nat} {k : Nat} {r : Int32} (p0 : Int32) (h : MIDP AD cy q q2 k p0 r f) : hMet l yX9_append cX9_append 2 (some .int) { frames := 6, cells := 0, slots := 0, locals := 158 } D (hTy cy) f sz [.ref (AD 125), .int p0] (hQi (fun b u => ∃ o, WJ AD cy q q2 (k + 1) r o u ∧ (r = 0 → o 0 = b.toInt64)) D f sz) hNo := by
  obtain ⟨hA, xa, xr, xk, hi, th, tl, w, nS, nC, cm, cs, lo, le, lfi, ge, SS, g, gp, gd, o, gb, gx, hX, hMc, hC, hRm, ⟨hS1, s2, s3, od, s4⟩, hJ, hb, hT2, hT3, hT4, hc⟩ := h
  obtain ⟨ps, pl, to, hm⟩ := id hMc
  refine h_conI (h_mono (k_X9_append hfl p0 (tn := tl) hm hT2 hT3.1) (Nat.le_of_ble_eq_true rfl) (Nat.le_of_ble_eq_true rfl) (Nat.le_of_ble_eq_true rfl) (Nat.le_of_ble_eq_true rfl)) ?_ (fun _ _ h => h)
  intro b u hp
  obtain ⟨er, em, ex, ef⟩ := hp
  have F : FR AD f u (fun i => i = 125 ∨ i = 132) := by
    refine FR_mk hA ef (fun y hy => ?_) (fun i hi9 => ?_)
    · simp only [List.mem_cons, List.not_mem_nil, or_false] at hy
      rcases hy with z | z
      · exact ⟨125, by omega, z⟩
      · exact ⟨132, by omega, z⟩
    · rcases hi9 with z | z
      · subst z; exact nsc_r hm (by decide)
      · subst z; exact nsc_a hT2
  have kX : XC AD u xa xr xk := XC_fr F (by omega) hX
  have kC : CMN AD cy q u cm cs lo le lfi w nS nC ge SS := CMN_fr F (fun i h1 h2 => by omega) (by omega) (by omega) (by omega) hC
  have kR : RMN AD cy u g gp gd := RMN_fr F (by omega) (by omega) (by omega) hRm
  have k2 : ROG AD cy u := ROG_fr F (fun i h1 h2 => by omega) (fun i h1 h2 => by omega) s2
  have k3 : JNK AD cy q2 u := JNK_fr F (fun i h1 h2 => by omega) (by omega) (by omega) s3
  have k4 : OUD AD cy u od := OUD_fr F (by omega) s4
  have kS : SVG AD cy u hi tl k := SVG_fr F (by omega) (by omega) (by omega) (by omega) (by omega) (Nat.le_refl _) hS1
  have kS2 : SVG AD cy u hi tl (k + 1) := SVG_fr F (by omega) (by omega) (by omega) (by omega) (by omega) (by omega) hS1
  rcases hc with ⟨c1, rfl, c3, c5⟩ | ⟨c1, c2, rfl, c3, c5⟩ | ⟨c1, c2, rfl, c3, c5⟩
  · have hn : X9_append_n1 p0 tl = 1 := if_pos c1
    have hl : ¬ nI (X9_append_n1 p0 tl) ≤ 0 := by rw [hn]; decide
    rw [show X9_append_x4 p0 tl = nI tl from if_neg hl, hn] at em
    rw [show X9_append_g5 gx p0 tl = gx from if_neg hl] at ex
    exact ⟨o, ⟨hA, xa, xr, xk, hi, tl, w, nS, nC, cm, cs, lo, le, lfi, ge, SS, g, gp, gd, kX, ⟨_, _, _, em⟩, kC, kR, ⟨kS2, ⟨gb, gx, TXC_fr F (by omega) (by omega) (by omega) c3, ex, hT3, hT4⟩, k2, k3, od, k4⟩, OUT_fr F (by omega) c5, hJ, by omega⟩, fun z => absurd z (by decide)⟩
  · have hn : X9_append_n1 p0 tl = 2 := by
      unfold X9_append_n1 X9_append_n0
      rw [if_neg (show ¬ X9_isIn_x1 p0 32 126 = 0 from c1), c2]; rfl
    have hl : ¬ nI (X9_append_n1 p0 tl) ≤ 0 := by rw [hn]; decide
    rw [show X9_append_x4 p0 tl = nI tl from if_neg hl, hn] at em
    rw [show X9_append_g5 gx p0 tl = gx from if_neg hl] at ex
    exact ⟨o, ⟨hA, xa, xr, xk, hi, tl, w, nS, nC, cm, cs, lo, le, lfi, ge, SS, g, gp, gd, kX, ⟨_, _, _, em⟩, kC, kR, ⟨kS2, ⟨gb, gx, TXC_fr F (by omega) (by omega) (by omega) c3, ex, hT3, hT4⟩, k2, k3, od, k4⟩, OUT_fr F (by omega) c5, hJ, by omega⟩, fun z => absurd z (by decide)⟩
  · have hn : X9_append_n1 p0 tl = 0 := by
      unfold X9_append_n1 X9_append_n0
      rw [if_neg (show ¬ X9_isIn_x1 p0 32 126 = 0 from c1), if_neg (fun z => by have := (nI_eq (a := tl) (b := 60) (by omega) (by omega)).mp z; omega)]
    have hl : nI (X9_append_n1 p0 tl) ≤ 0 := by rw [hn]; decide
    rw [show X9_append_x4 p0 tl = nI (tl + 1) from if_pos hl, hn] at em
    rw [show X9_append_g5 gx p0 tl = upd gx tl p0 from if_pos hl] at ex
    rw [show X9_append_r3 p0 tl = nI (tl + 1) from if_pos hl] at er
    obtain ⟨d1, d2⟩ := CHR_up hT3 c2 c1 hT4
    refine ⟨_, ⟨hA, xa, xr, xk, hi, tl + 1, w, nS, nC, cm, cs, lo, le, lfi, ge, SS, g, gp, gd, kX, ⟨_, _, _, em⟩, kC, kR, ⟨SVG_up kS, ⟨_, _, TXC_fr F (by omega) (by omega) (by omega) c3, ex, d1, d2⟩, k2, k3, od, k4⟩, OUT_fr F (by omega) c5, hJ, by omega⟩, fun _ => ?_⟩
    rw [er]; exact if_pos rfl
