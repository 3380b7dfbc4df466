/-! THE PLAIN ONES -/
set_option maxRecDepth 100000 in
theorem k_X9_resultN {l : Launch} (hfl : l.stackTraces = false) {D : va_G} {cy : Nat → ClassId} {f : Hf} {sz : Nat} {m : Nat} {v : Nat} {im : Nat} {kp : Nat} {pa : Nat} {de : Nat} {ide : Nat} {tx : Nat} {pt : Nat} {so : Nat} {mo : Nat} {wh : Nat} {pf : Nat} {c_th : Int32} {c_re : Int32} {c_un : Int32} {c_hi : Int32} {c_tn : Int32} {c_fa : Int32} {c_rf : Int32} {c_ps : Int32} {c_pl : Int32} {c_to : Int32} {g : Nat → Int32} (h_m : f m = some (.inr (11, [.int c_th, .int c_re, .ref v, .ref im, .ref kp, .ref pa, .ref de, .ref ide, .int c_un, .int c_hi, .ref tx, .int c_tn, .int c_fa, .int c_rf, .ref pt, .int c_ps, .int c_pl, .int c_to, .ref so, .ref mo, .ref wh, .ref pf]))) (h_v : f v = some (.inl (cy 0, 6441, .inl g))) (h0 : g 0 = 0) : hMet l yX9_result cX9_result 3 (some .int) { frames := 2, cells := 0, slots := 0, locals := 47 } D (hTy cy) f sz [.ref m] (hQi (fun r u => r = 0 ∧ u m = some (.inr (11, [.int 0, .int c_re, .ref v, .ref im, .ref kp, .ref pa, .ref de, .ref ide, .int c_un, .int c_hi, .ref tx, .int c_tn, .int c_fa, .int c_rf, .ref pt, .int c_ps, .int c_pl, .int c_to, .ref so, .ref mo, .ref wh, .ref pf])) ∧ hFrL f u [m]) D f sz) hNo := by
  refine h_enter (by decide) hfl (Nat.le_of_ble_eq_true rfl) ?_
  intro p9 e9 s9 m9 b9 t9 c9 hsz C0 hr hnm G ls hl
  have hx := C0.1.1
  have hb := C0.1.2.1
  have hl : lv_has ls 3 [(0, .ref m)] := hl
  refine lv_aload_n hx hb dX9_result_0 rfl (lv_at hl 0 rfl) ?_
  refine lv_iconst (v := 0) hx hb dX9_result_1 (by decide) ?_
  refine g_put C0 G h_m rfl hiX9 tyX9 tyX9_ok nmX9 0 (by decide) mf_X9_55 rfl rfl rfl rfl (Nat.le_of_ble_eq_true rfl) dX9_result_2 (fun H locs f11 hf11 G => ?_)
  have k12 : f11 m = some (.inr (11, [.int 0, .int c_re, .ref v, .ref im, .ref kp, .ref pa, .ref de, .ref ide, .int c_un, .int c_hi, .ref tx, .int c_tn, .int c_fa, .int c_rf, .ref pt, .int c_ps, .int c_pl, .int c_to, .ref so, .ref mo, .ref wh, .ref pf])) := hus hf11
  refine lv_aload_n hx hb dX9_result_5 rfl (lv_at hl 0 rfl) ?_
  refine g_get C0 G k12 rfl hiX9 2 (by decide) mf_X9_9 rfl dX9_result_6 ?_
  refine lv_iconst (v := 0) hx hb dX9_result_9 (by decide) ?_
  have k13 : f11 v = some (.inl (cy 0, 6441, .inl g)) := hup hf11 (hne h_v h_m (by intro q; cases q)) h_v
  refine g_iald C0 G k13 0 rfl (by unfold vp_in; decide) dX9_result_10 ?_
  refine lv_topv (v := g 0) rfl ?_
  refine lv_if_eq (tgt := 23) hx hb dX9_result_11 (by decide) (fun c14 => ?_) (fun c14 => ?_)
  · refine lv_iconst (v := 0) hx hb dX9_result_23 (by decide) ?_
    exact g_iret C0 G hr dX9_result_24 (Nat.le_of_ble_eq_true rfl) (Nat.le_of_ble_eq_true rfl) (by exact ⟨rfl, k12, (fun a9 e9 h7 h8 => hup hf11 (fun q => h7 (by rw [q]; simp)) (h8))⟩)
  · exact absurd h0 c14
set_option maxRecDepth 100000 in
theorem k_X9_neededN {l : Launch} (hfl : l.stackTraces = false) {D : va_G} {cy : Nat → ClassId} {f : Hf} {sz : Nat} {m : Nat} {v : Nat} {im : Nat} {kp : Nat} {pa : Nat} {de : Nat} {ide : Nat} {tx : Nat} {pt : Nat} {so : Nat} {mo : Nat} {wh : Nat} {pf : Nat} {c_th : Int32} {c_re : Int32} {c_un : Int32} {c_hi : Int32} {c_tn : Int32} {c_fa : Int32} {c_rf : Int32} {c_ps : Int32} {c_pl : Int32} {c_to : Int32} {g : Nat → Int32} (tg : Int32) (h_m : f m = some (.inr (11, [.int c_th, .int c_re, .ref v, .ref im, .ref kp, .ref pa, .ref de, .ref ide, .int c_un, .int c_hi, .ref tx, .int c_tn, .int c_fa, .int c_rf, .ref pt, .int c_ps, .int c_pl, .int c_to, .ref so, .ref mo, .ref wh, .ref pf]))) (h_v : f v = some (.inl (cy 0, 6441, .inl g))) (h0 : g 0 = 0) : hMet l yX9_needed cX9_needed 3 (some .int) { frames := 2, cells := 0, slots := 0, locals := 47 } D (hTy cy) f sz [.ref m, .int tg] (hQi (fun r u => r = 0 ∧ u m = some (.inr (11, [.int 1, .int 1, .ref v, .ref im, .ref kp, .ref pa, .ref de, .ref ide, .int c_un, .int c_hi, .ref tx, .int c_tn, .int c_fa, .int c_rf, .ref pt, .int c_ps, .int c_pl, .int c_to, .ref so, .ref mo, .ref wh, .ref pf])) ∧ hFrL f u [m]) D f sz) hNo := by
  refine h_enter (by decide) hfl (Nat.le_of_ble_eq_true rfl) ?_
  intro p9 e9 s9 m9 b9 t9 c9 hsz C0 hr hnm G ls hl
  have hx := C0.1.1
  have hb := C0.1.2.1
  have hl : lv_has ls 3 [(0, .ref m), (1, .int tg)] := hl
  refine lv_aload_n hx hb dX9_needed_0 rfl (lv_at hl 0 rfl) ?_
  refine lv_iconst (v := 0) hx hb dX9_needed_1 (by decide) ?_
  refine g_put C0 G h_m rfl hiX9 tyX9 tyX9_ok nmX9 0 (by decide) mf_X9_55 rfl rfl rfl rfl (Nat.le_of_ble_eq_true rfl) dX9_needed_2 (fun H locs f11 hf11 G => ?_)
  have k12 : f11 m = some (.inr (11, [.int 0, .int c_re, .ref v, .ref im, .ref kp, .ref pa, .ref de, .ref ide, .int c_un, .int c_hi, .ref tx, .int c_tn, .int c_fa, .int c_rf, .ref pt, .int c_ps, .int c_pl, .int c_to, .ref so, .ref mo, .ref wh, .ref pf])) := hus hf11
  refine lv_aload_n hx hb dX9_needed_5 rfl (lv_at hl 0 rfl) ?_
  refine lv_iconst (v := 1) hx hb dX9_needed_6 (by decide) ?_
  have k13 : f11 v = some (.inl (cy 0, 6441, .inl g)) := hup hf11 (hne h_v h_m (by intro q; cases q)) h_v
  refine g_cI C0 G (g_runV C0 G (rest := []) (k_X9_hasMatch hfl 1 k12 k13) k12 rfl hY_X9_hasMatch mm_X9_221 mi_X9_hasMatch ml_X9_hasMatch ⟨(Nat.le_of_ble_eq_true rfl), (Nat.le_of_ble_eq_true rfl)⟩ rfl hl.1 rfl (Nat.le_of_ble_eq_true rfl) dX9_needed_7 ⟨(Nat.le_of_ble_eq_true rfl), (Nat.le_of_ble_eq_true rfl)⟩) (kx_no rfl) (fun r16 u15 H locs hp14 G => ?_)
  obtain ⟨rfl, k17, fr18⟩ := hp14
  refine lv_if_ne (tgt := 15) hx hb dX9_needed_10 (by decide) (fun c19 => ?_) (fun c19 => ?_)
  · exact absurd (show X9_hasMatch_r0 g = 0 from by unfold X9_hasMatch_r0; rw [h0]; rfl) c19
  · refine lv_iconst (v := 0) hx hb dX9_needed_13 (by decide) ?_
    exact g_iret C0 G hr dX9_needed_14 (Nat.le_of_ble_eq_true rfl) (Nat.le_of_ble_eq_true rfl) (by exact ⟨rfl, (by rw [show X9_hasMatch_x1 0 g 1 = 1 from by unfold X9_hasMatch_x1; rw [h0]; rfl, show X9_hasMatch_x2 c_re g = 1 from by unfold X9_hasMatch_x2; rw [h0]; rfl] at k17; exact k17), (fun a9 e9 h7 h8 => fr18 _ _ (fun q => h7 (by simp only [List.mem_cons, List.not_mem_nil, or_false] at q ⊢; first | exact q | (rcases q with q <;> simp [q]) | omega)) (hup hf11 (fun q => h7 (by rw [q]; simp)) (h8)))⟩)
set_option maxRecDepth 100000 in
theorem kL_errorPosition {l : Launch} (hfl : l.stackTraces = false) {D : va_G} {cy : Nat → ClassId} {f : Hf} {sz : Nat} {AD : Nat → Nat} {q q2 : Nat → Option Nat} {k : Nat} {th : Int32} {o : Nat → Int64} (h : WJ AD cy q q2 k th o f) : hMetH l yL_errorPosition cL_errorPosition 3 (some .int) [((0 : Nat), (8 : Nat), (11 : Nat), (57 : Nat))] { frames := 9, cells := 64, slots := 600, locals := 170 } D (hTy cy) f sz [.ref (AD 0), .ref (AD 138)] (hQi (fun r u => ∃ o, WJ AD cy q q2 k th o u) D f sz) hNo := by
  have h0 := h
  obtain ⟨hA, xa, xr, xk, hi, tl, w, nS, nC, cm, cs, lo, le, lfi, ge, SS, g, gp, gd, hX, hMc, hC, hRm, hRs, hO, hJ, hb⟩ := h
  have K : ∀ sz, hMet l yX8_errorPosition cX8_errorPosition 1 (some .int) { frames := 8, cells := 64, slots := 600, locals := 140 } D (hTy cy) f sz [.ref (AD 0)] (hQi (fun r u => hFrL f u []) D f sz) (fun E u => E = "java/util/NoSuchElementException" ∧ hFrL f u []) := by
    intro sz
    by_cases v0 : xa < 0
    · exact h_conI (h_mono (c_X8_errorPositionN hfl (x := AD 0) (A := AM AD) (b := 0) (b2 := 54) hX v0) (Nat.le_of_ble_eq_true rfl) (Nat.le_of_ble_eq_true rfl) (Nat.le_of_ble_eq_true rfl) (Nat.le_of_ble_eq_true rfl)) (fun r u h => h.elim) (fun E u h => ⟨h.1, (by rw [h.2]; exact fun _ _ _ z => z)⟩)
    · exact h_conI (h_mono (c_X8_errorPositionY hfl (x := AD 0) (A := AM AD) (b := 0) (b2 := 54) hX (Int32.not_lt.mp v0)) (Nat.le_of_ble_eq_true rfl) (Nat.le_of_ble_eq_true rfl) (Nat.le_of_ble_eq_true rfl) (Nat.le_of_ble_eq_true rfl)) (fun r u h => (by rw [h.2]; exact fun _ _ _ z => z)) (fun _ _ h => False.elim h)
  refine h_conH (w_errorPosition hfl (gl := o) hX K (fun E u h => h.1) (fun v w h => OUT_fr (fr_0 hA h) id hO)) ?_
  intro r u hp
  rcases hp with ⟨-, v9, w9, hf, hu⟩ | ⟨-, -, hf⟩
  · exact ⟨_, WJ_out (WJ_fr0 h0 hf) hu⟩
  · exact ⟨o, WJ_fr0 h0 hf⟩
set_option maxRecDepth 100000 in
theorem kL_refused {l : Launch} (hfl : l.stackTraces = false) {D : va_G} {cy : Nat → ClassId} {f : Hf} {sz : Nat} {AD : Nat → Nat} {q q2 : Nat → Option Nat} {k : Nat} {th : Int32} {o : Nat → Int64} (h : WJ AD cy q q2 k th o f) : hMetH l yL_refused cL_refused 3 (some .int) [((0 : Nat), (8 : Nat), (11 : Nat), (57 : Nat))] { frames := 9, cells := 64, slots := 600, locals := 170 } D (hTy cy) f sz [.ref (AD 0), .ref (AD 138)] (hQi (fun r u => ∃ o, WJ AD cy q q2 k th o u) D f sz) hNo := by
  have h0 := h
  obtain ⟨hA, xa, xr, xk, hi, tl, w, nS, nC, cm, cs, lo, le, lfi, ge, SS, g, gp, gd, hX, hMc, hC, hRm, hRs, hO, hJ, hb⟩ := h
  have K : ∀ sz, hMet l yX8_refused cX8_refused 1 (some .int) { frames := 8, cells := 64, slots := 600, locals := 140 } D (hTy cy) f sz [.ref (AD 0)] (hQi (fun r u => hFrL f u []) D f sz) (fun E u => E = "java/util/NoSuchElementException" ∧ hFrL f u []) := by
    intro sz
    by_cases v0 : 0 ≤ xr
    · exact h_conI (h_mono (c_X8_refusedY hfl (x := AD 0) (A := AM AD) (b := 0) (b2 := 54) hX v0) (Nat.le_of_ble_eq_true rfl) (Nat.le_of_ble_eq_true rfl) (Nat.le_of_ble_eq_true rfl) (Nat.le_of_ble_eq_true rfl)) (fun r u h => (by rw [h.2]; exact fun _ _ _ z => z)) (fun _ _ h => False.elim h)
    · exact h_conI (h_mono (c_X8_refusedN hfl (x := AD 0) (A := AM AD) (b := 0) (b2 := 54) hX v0) (Nat.le_of_ble_eq_true rfl) (Nat.le_of_ble_eq_true rfl) (Nat.le_of_ble_eq_true rfl) (Nat.le_of_ble_eq_true rfl)) (fun r u h => h.elim) (fun E u h => ⟨h.1, (by rw [h.2]; exact fun _ _ _ z => z)⟩)
  refine h_conH (w_refused hfl (gl := o) hX K (fun E u h => h.1) (fun v w h => OUT_fr (fr_0 hA h) id hO)) ?_
  intro r u hp
  rcases hp with ⟨-, v9, w9, hf, hu⟩ | ⟨-, -, hf⟩
  · exact ⟨_, WJ_out (WJ_fr0 h0 hf) hu⟩
  · exact ⟨o, WJ_fr0 h0 hf⟩
set_option maxRecDepth 100000 in
theorem kC_reason {l : Launch} (hfl : l.stackTraces = false) {D : va_G} {cy : Nat → ClassId} {f : Hf} {sz : Nat} {AD : Nat → Nat} {q q2 : Nat → Option Nat} {k : Nat} {th : Int32} {o : Nat → Int64} (hk : k ≤ 511) (h : WJ AD cy q q2 k th o f) : hMet l yX8_reason cX8_reason 1 (some .int) { frames := 8, cells := 64, slots := 600, locals := 140 } D (hTy cy) f sz [.ref (AD 0)] (hQi (fun r u => WJ AD cy q q2 k th o u) D f sz) hNo := by
  have h0 := h
  obtain ⟨hA, xa, xr, xk, hi, tl, w, nS, nC, cm, cs, lo, le, lfi, ge, SS, g, gp, gd, hX, hMc, hC, hRm, hRs, hO, hJ, hb⟩ := h
  obtain ⟨hM, h1, h2, qs, sq, h3, h4⟩ := id hC
  exact h_conI (h_mono (c_X8_reason hfl (x := AD 0) (A := AM AD) (b := 0) (b2 := 54) hX) (Nat.le_of_ble_eq_true rfl) (Nat.le_of_ble_eq_true rfl) (Nat.le_of_ble_eq_true rfl) (Nat.le_of_ble_eq_true rfl)) (fun r u h => by rw [h.2]; exact h0) (fun _ _ h => False.elim h)
set_option maxRecDepth 100000 in
theorem kC_commandCount {l : Launch} (hfl : l.stackTraces = false) {D : va_G} {cy : Nat → ClassId} {f : Hf} {sz : Nat} {AD : Nat → Nat} {q q2 : Nat → Option Nat} {k : Nat} {th : Int32} {o : Nat → Int64} (hk : k ≤ 511) (h : WJ AD cy q q2 k th o f) : hMet l yX8_commandCount cX8_commandCount 1 (some .int) { frames := 8, cells := 64, slots := 600, locals := 140 } D (hTy cy) f sz [.ref (AD 0)] (hQi (fun r u => WJ AD cy q q2 k th o u) D f sz) hNo := by
  have h0 := h
  obtain ⟨hA, xa, xr, xk, hi, tl, w, nS, nC, cm, cs, lo, le, lfi, ge, SS, g, gp, gd, hX, hMc, hC, hRm, hRs, hO, hJ, hb⟩ := h
  obtain ⟨hM, h1, h2, qs, sq, h3, h4⟩ := id hC
  exact h_conI (h_mono (c_X8_commandCount hfl (x := AD 0) (A := AM AD) (b := 0) (b2 := 54) hX h1 h3 h2) (Nat.le_of_ble_eq_true rfl) (Nat.le_of_ble_eq_true rfl) (Nat.le_of_ble_eq_true rfl) (Nat.le_of_ble_eq_true rfl)) (fun r u h => by rw [h.2]; exact h0) (fun _ _ h => False.elim h)
set_option maxRecDepth 100000 in
theorem kC_result {l : Launch} (hfl : l.stackTraces = false) {D : va_G} {cy : Nat → ClassId} {f : Hf} {sz : Nat} {AD : Nat → Nat} {q q2 : Nat → Option Nat} {k : Nat} {th : Int32} {o : Nat → Int64} (hk : k ≤ 511) (h : WJ AD cy q q2 k th o f) : hMet l yX8_result cX8_result 1 (some .int) { frames := 8, cells := 64, slots := 600, locals := 140 } D (hTy cy) f sz [.ref (AD 0)] (hQi (fun r u => WJ AD cy q q2 k th o u) D f sz) hNo := by
  have h0 := h
  obtain ⟨hA, xa, xr, xk, hi, tl, w, nS, nC, cm, cs, lo, le, lfi, ge, SS, g, gp, gd, hX, hMc, hC, hRm, hRs, hO, hJ, hb⟩ := h
  obtain ⟨hM, h1, h2, qs, sq, h3, h4⟩ := id hC
  exact h_conI (h_mono (c_X8_result hfl (x := AD 0) (A := AM AD) (b := 0) (b2 := 54) (q := q) hX (AM_ne hA) hM hA.2.1 (JM_PX hJ (by omega))) (Nat.le_of_ble_eq_true rfl) (Nat.le_of_ble_eq_true rfl) (Nat.le_of_ble_eq_true rfl) (Nat.le_of_ble_eq_true rfl)) (fun r u h => WJ_fr0 h0 h.2.2) (fun _ _ h => False.elim h)
/-- what the last innings wants of the reference -/
theorem JM_last {cm : Nat → Int32} {cs : Nat → Nat → Nat → Int32} {lo le lfi : Int32} {w nS nC : Nat} {ge : Nat → Int32} {SS : Nat → Nat → Int32} {g gp gd : Nat → Int32} (h : JM cm cs lo le lfi w nS nC ge SS g gp gd) : g 0 = 0 ∨ ∃ i e, g 4 = nI i ∧ i < 4 ∧ g 1 = nI e ∧ (e = 1 ∨ e = 2) ∧ i + 1 ≤ 2 * e ∧ (i + 1 = 2 * e → e = 2 ∨ ¬ (g 14).toInt64 = 0) := by
  rcases h with ⟨-, -, hg, -⟩ | h
  · exact Or.inl (hg 0 (by omega))
  · obtain ⟨n, SB, RP, RF, OC, ⟨b1, b2, b3, b4, b5, b6, b7, b8, b9, b10⟩, hs, hp, -⟩ := JL_RR h
    have hle := VAR_le b3 b2 b1
    refine Or.inr ⟨n, (cm 2).toNatClampNeg, b9, b1, ?_, ?_, hle, fun _ => ?_⟩
    · rw [b6]
      rcases b3 with z | z <;> rw [z.1] <;> rfl
    · rcases b3 with z | z
      · exact Or.inl (by rw [z.1]; rfl)
      · exact Or.inr (by rw [z.1]; rfl)
    · rcases b3 with z | z
      · refine Or.inr ?_
        obtain ⟨r, r1, r2, r3⟩ := (hp 0 (by omega)).2.2.2.2.2.2.1 z.1
        have r14 : cs 0 6 8 = g 14 := (hp 0 (by omega)).1.2.2.2.2.2.2.2.2.2.2.2.2.1
        rw [← r14, r3]
        intro z2
        have := pos64 r1 r2
        rw [z2] at this
        exact absurd this (by decide)
      · exact Or.inl (by rw [z.1]; rfl)
set_option maxRecDepth 100000 in
theorem kR_result {l : Launch} (hfl : l.stackTraces = false) {D : va_G} {cy : Nat → ClassId} {f : Hf} {sz : Nat} {AD : Nat → Nat} {q q2 : Nat → Option Nat} {k : Nat} {th : Int32} {o : Nat → Int64} (h : WJ AD cy q q2 k th o f) : hMet l yX9_result cX9_result 3 (some .int) { frames := 6, cells := 0, slots := 0, locals := 158 } D (hTy cy) f sz [.ref (AD 125)] (hQi (fun b u => ∃ th, WJ AD cy q q2 (k + 1) th o u) D f sz) hNo := by
  obtain ⟨hA, xa, xr, xk, hi, tl, w, nS, nC, cm, cs, lo, le, lfi, ge, SS, g, gp, gd, hX, hMc, hC, hRm, hRs, hO, hJ, hb⟩ := h
  obtain ⟨ps, pl, to, hm⟩ := id hMc
  rcases JM_last hJ with h0 | ⟨i, e, g4, hi4, g1, he, hie, hrr⟩
  · exact h_conI (h_mono (k_X9_resultN hfl hm hRm.1 h0) (Nat.le_of_ble_eq_true rfl) (Nat.le_of_ble_eq_true rfl) (Nat.le_of_ble_eq_true rfl) (Nat.le_of_ble_eq_true rfl)) (fun b u h => ⟨_, WJ_th hA hX hMc hC hRm hRs hO hJ hb (fr_o hA hMc h.2.2) ⟨_, _, _, h.2.1⟩⟩) (fun _ _ h => h)
  · exact h_conI (h_mono (k_X9_result hfl hm hRm.1 g4 hi4 g1 he hie hrr) (Nat.le_of_ble_eq_true rfl) (Nat.le_of_ble_eq_true rfl) (Nat.le_of_ble_eq_true rfl) (Nat.le_of_ble_eq_true rfl)) (fun b u h => ⟨_, WJ_th hA hX hMc hC hRm hRs hO hJ hb (fr_o hA hMc h.2.2) ⟨_, _, _, h.2.1⟩⟩) (fun _ _ h => h)
def BADg (a b c : Int32) : Prop := X8_isWithin_x1 a 1 20 = 0 ∨ X8_isWithin_x1 b 1 2 = 0 ∨ X8_isWithin_x1 c 0 1 = 0
theorem ok_begin {a b c : Int32} (h : ¬ BADg a b c) : BEG a b ∧ X1_hasMatch_x0 b = 1 := by
  obtain ⟨h1, h2⟩ := wi_in (fun z => h (Or.inl z))
  obtain ⟨h3, h4⟩ := wi_in (fun z => h (Or.inr (Or.inl z)))
  obtain ⟨k, hk, e⟩ := in_nat (n := 20) (by omega) (Int32.le_trans (by decide) h1) h2
  obtain ⟨j, hj, e2⟩ := in_nat (n := 2) (by omega) (Int32.le_trans (by decide) h3) h4
  rw [e] at h1
  rw [e2] at h3
  have k1 := (nI_leI (a := 1) (b := k) (by omega) (by omega)).mp h1
  have j1 := (nI_leI (a := 1) (b := j) (by omega) (by omega)).mp h3
  have hj2 : j = 1 ∨ j = 2 := by omega
  refine ⟨⟨⟨k, k1, hk, e⟩, ?_⟩, ?_⟩
  · rcases hj2 with z | z
    · exact Or.inl (by rw [e2, z]; rfl)
    · exact Or.inr (by rw [e2, z]; rfl)
  · rcases hj2 with z | z <;> rw [e2, z] <;> rfl
/-- between the two calls of begin -/
def MIDB (AD : Nat → Nat) (cy : Nat → ClassId) (q q2 : Nat → Option Nat) (k : Nat) (p0 p1 p2 r : Int32) (u : Hf) : Prop := AOK AD q q2 ∧ ∃ (xa xr xk hi th : Int32) (tl w nS nC : Nat) (cm : Nat → Int32) (cs : Nat → Nat → Nat → Int32) (lo le lfi : Int32) (ge : Nat → Int32) (SS : Nat → Nat → Int32) (g gp gd : Nat → Int32) (o : Nat → Int64), MC AD u th xk (nI w) hi (nI tl) xa xr ∧ RMN AD cy u g gp gd ∧ RST AD cy q2 u hi tl k ∧ XC AD u xa xr xk ∧ nS + tl ≤ k ∧ ((BADg p0 p1 p2 ∧ r = 1 ∧ CMN AD cy q u cm cs lo le lfi w nS nC ge SS ∧ JM cm cs lo le lfi w nS nC ge SS g gp gd ∧ OUT AD cy u o) ∨ (¬ BADg p0 p1 p2 ∧ r = 0 ∧ CMN AD cy q u (fl SS (foM cm p1 p2) (foS cs p0 p1) 0).1 (fl SS (foM cm p1 p2) (foS cs p0 p1) 0).2 p0 p1 p2 0 0 0 ge SS ∧ OUT AD cy u (vp_updL o 0 (X3_quota_r0 p0).toInt64)))
def IG (i : Nat) : Prop := (1 ≤ i ∧ i ≤ 54) ∨ i = 109
theorem fr_g {AD : Nat → Nat} {q q2 : Nat → Option Nat} {cy : Nat → ClassId} {f u : Hf} {cm : Nat → Int32} {cs : Nat → Nat → Nat → Int32} {lo le lfi : Int32} {w nS nC : Nat} {ge : Nat → Int32} {SS : Nat → Nat → Int32} (hA : AOK AD q q2) (hC : CMN AD cy q f cm cs lo le lfi w nS nC ge SS) (h : hFrL f u (MA (AM AD) 0 ++ [AD 109])) : FR AD f u IG := by
  obtain ⟨hM, h1, h2, qs, sq, h3, h4⟩ := hC
  refine FR_mk hA h (fun y hy => ?_) (fun i hi9 => ?_)
  · rcases List.mem_append.mp hy with z | z
    · obtain ⟨j, hj, e⟩ := MA_ix z
      exact ⟨0 + j + 1, by unfold IG; omega, e⟩
    · exact ⟨109, by unfold IG; omega, List.mem_singleton.mp z⟩
  · rcases hi9 with z | z
    · exact nsc_m hM (by omega)
    · subst z; exact nsc_r h1 (by decide)
set_option maxRecDepth 100000 in
theorem kL_begin {l : Launch} (hfl : l.stackTraces = false) {D : va_G} {cy : Nat → ClassId} {f : Hf} {sz : Nat} {AD : Nat → Nat} {q q2 : Nat → Option Nat} {k : Nat} {th : Int32} {o : Nat → Int64} (p0 p1 p2 : Int32) (h : WJ AD cy q q2 k th o f) : hMetH l yL_begin cL_begin 6 (some .int) [((0 : Nat), (12 : Nat), (15 : Nat), (13 : Nat))] { frames := 9, cells := 64, slots := 600, locals := 170 } D (hTy cy) f sz [.ref (AD 0), .int p0, .int p1, .int p2, .ref (AD 138)] (hQi (fun r u => MIDB AD cy q q2 k p0 p1 p2 r u) D f sz) hNo := by
  obtain ⟨hA, xa, xr, xk, hi, tl, w, nS, nC, cm, cs, lo, le, lfi, ge, SS, g, gp, gd, hX, hMc, hC, hRm, hRs, hO, hJ, hb⟩ := h
  obtain ⟨hM, h1, h2, qs, sq, h3, h4⟩ := id hC
  by_cases v0 : X8_isWithin_x1 p0 1 20 = 0
  · refine h_conH (w_begin hfl (gl := o) (P := fun _ _ => False) (X := fun E u => E = "java/lang/IllegalArgumentException" ∧ u = f) hX (fun sz => h_mono (c_X8_beginB1 hfl p0 p1 p2 (x := AD 0) (A := AM AD) (b := 0) (b2 := 54) hX v0) (Nat.le_of_ble_eq_true rfl) (Nat.le_of_ble_eq_true rfl) (Nat.le_of_ble_eq_true rfl) (Nat.le_of_ble_eq_true rfl)) (fun E u hx => hx.1) (fun v w h => h.elim)) ?_
    intro r u hp
    rcases hp with ⟨rfl, v9, w9, hf, -⟩ | ⟨rfl, -, rfl⟩
    · exact hf.elim
    · exact ⟨hA, xa, xr, xk, hi, th, tl, w, nS, nC, cm, cs, lo, le, lfi, ge, SS, g, gp, gd, o, hMc, hRm, hRs, hX, hb, Or.inl ⟨Or.inl v0, rfl, hC, hJ, hO⟩⟩
  by_cases v1 : X8_isWithin_x1 p1 1 2 = 0
  · refine h_conH (w_begin hfl (gl := o) (P := fun _ _ => False) (X := fun E u => E = "java/lang/IllegalArgumentException" ∧ u = f) hX (fun sz => h_mono (c_X8_beginB2 hfl p0 p1 p2 (x := AD 0) (A := AM AD) (b := 0) (b2 := 54) hX v0 v1) (Nat.le_of_ble_eq_true rfl) (Nat.le_of_ble_eq_true rfl) (Nat.le_of_ble_eq_true rfl) (Nat.le_of_ble_eq_true rfl)) (fun E u hx => hx.1) (fun v w h => h.elim)) ?_
    intro r u hp
    rcases hp with ⟨rfl, v9, w9, hf, -⟩ | ⟨rfl, -, rfl⟩
    · exact hf.elim
    · exact ⟨hA, xa, xr, xk, hi, th, tl, w, nS, nC, cm, cs, lo, le, lfi, ge, SS, g, gp, gd, o, hMc, hRm, hRs, hX, hb, Or.inl ⟨Or.inr (Or.inl v1), rfl, hC, hJ, hO⟩⟩
  by_cases v2 : X8_isWithin_x1 p2 0 1 = 0
  · refine h_conH (w_begin hfl (gl := o) (P := fun _ _ => False) (X := fun E u => E = "java/lang/IllegalArgumentException" ∧ u = f) hX (fun sz => h_mono (c_X8_beginB3 hfl p0 p1 p2 (x := AD 0) (A := AM AD) (b := 0) (b2 := 54) hX v0 v1 v2) (Nat.le_of_ble_eq_true rfl) (Nat.le_of_ble_eq_true rfl) (Nat.le_of_ble_eq_true rfl) (Nat.le_of_ble_eq_true rfl)) (fun E u hx => hx.1) (fun v w h => h.elim)) ?_
    intro r u hp
    rcases hp with ⟨rfl, v9, w9, hf, -⟩ | ⟨rfl, -, rfl⟩
    · exact hf.elim
    · exact ⟨hA, xa, xr, xk, hi, th, tl, w, nS, nC, cm, cs, lo, le, lfi, ge, SS, g, gp, gd, o, hMc, hRm, hRs, hX, hb, Or.inl ⟨Or.inr (Or.inr v2), rfl, hC, hJ, hO⟩⟩
  have nb : ¬ BADg p0 p1 p2 := fun z => by rcases z with z | z | z; exact v0 z; exact v1 z; exact v2 z
  refine h_conH (w_begin hfl (gl := o) (X := hNo) hX (fun sz => h_mono (c_X8_beginA hfl p0 p1 p2 (x := AD 0) (A := AM AD) (b := 0) (b2 := 54) (q := q) hX h1 h3 h2 (AM_ne hA) hM hA.2.1 (nMA hA (by omega)) (nMA hA (by omega)) v0 v1 v2 (ok_begin nb).2) (Nat.le_of_ble_eq_true rfl) (Nat.le_of_ble_eq_true rfl) (Nat.le_of_ble_eq_true rfl) (Nat.le_of_ble_eq_true rfl)) (fun _ _ h => False.elim h) (fun v9 u9 hp => OUT_fr (fr_g hA hC hp.2.2.2) (by unfold IG; omega) hO)) ?_
  intro r u hp
  rcases hp with ⟨rfl, v9, u9, ⟨e9, y2, y4, y5⟩, hu⟩ | ⟨rfl, hx⟩
  · have F1 := fr_g hA hC y5
    have O1 : OUT AD cy u9 o := OUT_fr F1 (by unfold IG; omega) hO
    obtain ⟨F2, O2⟩ := FR_up hA (nsc_a O1) hu
    have C1 : CMN AD cy q u9 (fl SS (foM cm p1 p2) (foS cs p0 p1) 0).1 (fl SS (foM cm p1 p2) (foS cs p0 p1) 0).2 p0 p1 p2 0 0 0 ge SS := ⟨y4, y2, F1.1 (109 + 3) _ (by unfold IG; omega) h2, qs, sq, F1.1 (109 + 2) _ (by unfold IG; omega) h3, fun j hj => absurd hj (by omega)⟩
    rw [e9] at O2
    exact ⟨hA, xa, xr, xk, hi, th, tl, w, nS, nC, cm, cs, lo, le, lfi, ge, SS, g, gp, gd, o, MC_fr F2 (by omega) (MC_fr F1 (by unfold IG; omega) hMc), RMN_fr F2 (by omega) (by omega) (by omega) (RMN_fr F1 (by unfold IG; omega) (by unfold IG; omega) (by unfold IG; omega) hRm), RST_fr F2 (fun i h => by omega) (Nat.le_refl _) (RST_fr F1 (fun i h => by unfold IG; omega) (Nat.le_refl _) hRs), XC_fr F2 (by omega) (XC_fr F1 (by unfold IG; omega) hX), hb, Or.inr ⟨nb, rfl, CMN_fr F2 (fun i h1 h2 => by omega) (by omega) (by omega) (by omega) C1, O2⟩⟩
  · exact False.elim hx
theorem fr_mv {AD : Nat → Nat} {q q2 : Nat → Option Nat} {cy : Nat → ClassId} {f u : Hf} {xa xr xk hi th : Int32} {w tl : Nat} {g gp gd : Nat → Int32} (hA : AOK AD q q2) (hMc : MC AD f th xk (nI w) hi (nI tl) xa xr) (hRm : RMN AD cy f g gp gd) (h : hFrL f u [AD 125, AD 126]) : FR AD f u (fun i => i = 125 ∨ i = 126) := by
  obtain ⟨ps, pl, to, hm⟩ := hMc
  refine FR_mk hA h (fun y hy => ?_) (fun i hi9 => ?_)
  · simp only [List.mem_cons, List.not_mem_nil, or_false] at hy
    rcases hy with z | z
    · exact ⟨125, by omega, z⟩
    · exact ⟨126, by omega, z⟩
  · rcases hi9 with z | z
    · subst z; exact nsc_r hm (by decide)
    · subst z; exact nsc_a hRm.1
theorem bg_bad {a b c : Int32} (h : BADg a b c) : X9_begin_x2 a b c = 1 := by
  unfold X9_begin_x2 X9_begin_x1 X9_begin_x0
  rcases h with z | z | z
  · exact if_pos z
  · split
    · rfl
    · exact if_pos z
  · split
    · rfl
    · split
      · rfl
      · exact if_pos z
theorem bg_ok {a b c : Int32} (h : ¬ BADg a b c) : X9_begin_x2 a b c = 0 := by
  unfold X9_begin_x2 X9_begin_x1 X9_begin_x0
  rw [if_neg (show ¬ X9_isIn_x1 a 1 20 = 0 from fun z => h (Or.inl z)), if_neg (show ¬ X9_isIn_x1 b 1 2 = 0 from fun z => h (Or.inr (Or.inl z))), if_neg (show ¬ X9_isIn_x1 c 0 1 = 0 from fun z => h (Or.inr (Or.inr z)))]
set_option maxRecDepth 100000 in
theorem kR_begin {l : Launch} (hfl : l.stackTraces = false) {D : va_G} {cy : Nat → ClassId} {f : Hf} {sz : Nat} {AD : Nat → Nat} {q q2 : Nat → Option Nat} {k : Nat} {r : Int32} (p0 p1 p2 : Int32) (h : MIDB AD cy q q2 k p0 p1 p2 r f) : hMet l yX9_begin cX9_begin 4 (some .int) { frames := 6, cells := 0, slots := 0, locals := 158 } D (hTy cy) f sz [.ref (AD 125), .int p0, .int p1, .int p2] (hQi (fun b u => ∃ o, WJ AD cy q q2 (k + 1) r o u ∧ (r = 0 → o 0 = b.toInt64)) D f sz) hNo := by
  obtain ⟨hA, xa, xr, xk, hi, th, tl, w, nS, nC, cm, cs, lo, le, lfi, ge, SS, g, gp, gd, o, hMc, hRm, hRs, hX, hb, hc⟩ := h
  obtain ⟨ps, pl, to, hm⟩ := id hMc
  refine h_conI (h_mono (k_X9_begin hfl p0 p1 p2 hm hRm.1) (Nat.le_of_ble_eq_true rfl) (Nat.le_of_ble_eq_true rfl) (Nat.le_of_ble_eq_true rfl) (Nat.le_of_ble_eq_true rfl)) ?_ (fun _ _ h => h)
  intro b u hp
  obtain ⟨er, em, ev, ef⟩ := hp
  have F := fr_mv hA hMc hRm ef
  have hR2 : RST AD cy q2 u hi tl (k + 1) := RST_fr F (fun i h => by omega) (by omega) hRs
  have hX2 : XC AD u xa xr xk := XC_fr F (by omega) hX
  have up : IA AD cy u 129 51528 gp := IA_fr F (by omega) hRm.2.1
  have ud : IA AD cy u 130 24000 gd := IA_fr F (by omega) hRm.2.2
  rcases hc with ⟨c1, rfl, c3, c4, c5⟩ | ⟨c1, rfl, c3, c5⟩
  · have hx := bg_bad c1
    rw [show X9_begin_x4 (nI w) p0 p1 p2 = nI w from if_pos hx, hx] at em
    rw [show X9_begin_g5 g p0 p1 p2 = g from if_pos hx] at ev
    exact ⟨o, ⟨hA, xa, xr, xk, hi, tl, w, nS, nC, cm, cs, lo, le, lfi, ge, SS, g, gp, gd, hX2, ⟨_, _, _, em⟩, CMN_fr F (fun i h1 h2 => by omega) (by omega) (by omega) (by omega) c3, ⟨ev, up, ud⟩, hR2, OUT_fr F (by omega) c5, c4, by omega⟩, fun z => absurd z (by decide)⟩
  · have hx := bg_ok c1
    have hx1 : ¬ X9_begin_x2 p0 p1 p2 = 1 := by rw [hx]; decide
    rw [show X9_begin_x4 (nI w) p0 p1 p2 = nI 0 from if_neg hx1, hx] at em
    rw [show X9_begin_g5 g p0 p1 p2 = X9_begins_g4 g p0 p1 p2 from if_neg hx1] at ev
    rw [show X9_begin_r3 p0 p1 p2 = X9_fifth_r0 p0 from if_neg hx1] at er
    refine ⟨_, ⟨hA, xa, xr, xk, hi, tl, 0, 0, 0, _, _, p0, p1, p2, ge, SS, _, gp, gd, hX2, ⟨_, _, _, em⟩, CMN_fr F (fun i h1 h2 => by omega) (by omega) (by omega) (by omega) c3, ⟨ev, up, ud⟩, hR2, OUT_fr F (by omega) c5, Or.inr (JL_begin (ok_begin c1).1 cm cs), by omega⟩, fun _ => ?_⟩
    rw [er]; exact if_pos rfl
