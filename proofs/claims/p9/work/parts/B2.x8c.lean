set_option maxRecDepth 100000 in
theorem c_X8_demandMatchN {l : Launch} (hfl : l.stackTraces = false) {D : va_G} {cy : Nat → ClassId} {f : Hf} {sz : Nat} {x : Nat} {lg : Nat} {sa : Nat} {ea : Nat} {A : Nat → Nat} {b : Nat} {b2 : Nat} {lg_o : Nat} {tx : Nat} {rz : Nat} {ro : Nat} {xea : Int32} {xra : Int32} {xkr : Int32} {no : Nat} {lo : Int32} {le : Int32} {lfi : Int32} {nS : Nat} {nC : Nat} {lun : Int32} {qs : Nat → Option Nat} {ge : Nat → Int32} (h_x : f x = some (.inr (10, [.ref (A (b + 0)), .ref (A (b2 + 0)), .ref lg, .ref lg_o, .ref tx, .ref rz, .ref ro, .int xea, .int xra, .int xkr]))) (h_lg : f lg = some (.inr (3, [.ref no, .ref sa, .ref ea, .int lo, .int le, .int lfi, .int (nI nS), .int (nI nC), .int lun]))) (h_sa : f sa = some (.inl (cy 4, 512, .inr (.inr (.inr (.inr qs)))))) (h_ea : f ea = some (.inl (cy 0, 512, .inl ge))) (v0 : (X1_hasMatch_x0 le) = 0) : hMet l yX8_demandMatch cX8_demandMatch 1 none { frames := 6, cells := 1, slots := 6, locals := 82 } D (hTy cy) f sz [.ref x] (hQv (fun u => False) D f sz) (fun E u => E = "java/lang/IllegalStateException" ∧ u x = some (.inr (10, [.ref (A (b + 0)), .ref (A (b2 + 0)), .ref lg, .ref lg_o, .ref tx, .ref rz, .ref ro, .int xea, .int xra, .int 1])) ∧ hFrL f u [x]) := by
  refine h_enter (by decide) hfl (Nat.le_of_ble_eq_true rfl) ?_
  intro p9 e9 s9 m9 b9 t9 c9 hsz C0 hr hnm G ls hl
  have hx := C0.1.1
  have hb := C0.1.2.1
  have hl : lv_has ls 1 [(0, .ref x)] := hl
  refine lv_aload_n hx hb dX8_demandMatch_0 rfl (lv_at hl 0 rfl) ?_
  refine g_get C0 G h_x rfl hiX8 2 (by decide) mf_X8_22 rfl dX8_demandMatch_1 ?_
  refine g_cI C0 G (g_runV C0 G (rest := []) (c_X1_hasMatch hfl (lo := lo) (le := le) (lfi := lfi) (lsc := nI nS) (lcm := nI nC) (lun := lun) h_lg) h_lg rfl hY_X1_hasMatch mm_X8_332 mi_X1_hasMatch ml_X1_hasMatch ⟨(Nat.le_of_ble_eq_true rfl), (Nat.le_of_ble_eq_true rfl)⟩ rfl hl.1 rfl (Nat.le_of_ble_eq_true rfl) dX8_demandMatch_4 ⟨(Nat.le_of_ble_eq_true rfl), (Nat.le_of_ble_eq_true rfl)⟩) (kx_no rfl) (fun r13 u12 H locs hp11 G => ?_)
  obtain ⟨er14, eu12⟩ := hp11
  rw [eu12] at G
  refine lv_topv (v := (X1_hasMatch_x0 le)) er14 ?_
  refine lv_if_ne (tgt := 26) hx hb dX8_demandMatch_7 (by decide) (fun c15 => absurd (v0) c15) (fun _ => ?_)
  refine lv_aload_n hx hb dX8_demandMatch_10 rfl (lv_at hl 0 rfl) ?_
  refine lv_iconst (v := 1) hx hb dX8_demandMatch_11 (by decide) ?_
  refine g_put C0 G h_x rfl hiX8 tyX8 tyX8_ok nmX8 9 (by decide) mf_X8_53 rfl rfl rfl rfl (Nat.le_of_ble_eq_true rfl) dX8_demandMatch_12 (fun H locs f16 hf16 G => ?_)
  have k17 : f16 x = some (.inr (10, [.ref (A (b + 0)), .ref (A (b2 + 0)), .ref lg, .ref lg_o, .ref tx, .ref rz, .ref ro, .int xea, .int xra, .int 1])) := hus hf16
  exact g_throwW C0 G (X := "java/lang/IllegalStateException") (by decide) mk_X8_131 mz_java_lang_IllegalStateException (is := 337) (text := "no match") (by decide) hat_135 hl.1 dX8_demandMatch_15 dX8_demandMatch_18 dX8_demandMatch_19 dX8_demandMatch_22 dX8_demandMatch_25 ⟨(Nat.le_of_ble_eq_true rfl), (Nat.le_of_ble_eq_true rfl)⟩ ⟨(Nat.le_of_ble_eq_true rfl), (Nat.le_of_ble_eq_true rfl)⟩ (Nat.le_of_ble_eq_true rfl) (Nat.le_of_ble_eq_true rfl) (by exact ⟨rfl, k17, (fun a9 e9 h7 h8 => hup hf16 (fun q => h7 (by rw [q]; simp)) (h8))⟩)
set_option maxRecDepth 100000 in
theorem c_X8_demandMatchO {l : Launch} (hfl : l.stackTraces = false) {D : va_G} {cy : Nat → ClassId} {f : Hf} {sz : Nat} {x : Nat} {lg : Nat} {sa : Nat} {ea : Nat} {A : Nat → Nat} {b : Nat} {b2 : Nat} {lg_o : Nat} {tx : Nat} {rz : Nat} {ro : Nat} {xea : Int32} {xra : Int32} {xkr : Int32} {no : Nat} {lo : Int32} {le : Int32} {lfi : Int32} {nS : Nat} {nC : Nat} {lun : Int32} {qs : Nat → Option Nat} {ge : Nat → Int32} (h_x : f x = some (.inr (10, [.ref (A (b + 0)), .ref (A (b2 + 0)), .ref lg, .ref lg_o, .ref tx, .ref rz, .ref ro, .int xea, .int xra, .int xkr]))) (h_lg : f lg = some (.inr (3, [.ref no, .ref sa, .ref ea, .int lo, .int le, .int lfi, .int (nI nS), .int (nI nC), .int lun]))) (h_sa : f sa = some (.inl (cy 4, 512, .inr (.inr (.inr (.inr qs)))))) (h_ea : f ea = some (.inl (cy 0, 512, .inl ge))) (v0 : ¬ (X1_hasMatch_x0 le) = 0) : hMet l yX8_demandMatch cX8_demandMatch 1 none { frames := 1, cells := 0, slots := 0, locals := 20 } D (hTy cy) f sz [.ref x] (hQv (fun u => u = f) D f sz) hNo := by
  refine h_enter (by decide) hfl (Nat.le_of_ble_eq_true rfl) ?_
  intro p9 e9 s9 m9 b9 t9 c9 hsz C0 hr hnm G ls hl
  have hx := C0.1.1
  have hb := C0.1.2.1
  have hl : lv_has ls 1 [(0, .ref x)] := hl
  refine lv_aload_n hx hb dX8_demandMatch_0 rfl (lv_at hl 0 rfl) ?_
  refine g_get C0 G h_x rfl hiX8 2 (by decide) mf_X8_22 rfl dX8_demandMatch_1 ?_
  refine g_cI C0 G (g_runV C0 G (rest := []) (c_X1_hasMatch hfl (lo := lo) (le := le) (lfi := lfi) (lsc := nI nS) (lcm := nI nC) (lun := lun) h_lg) h_lg rfl hY_X1_hasMatch mm_X8_332 mi_X1_hasMatch ml_X1_hasMatch ⟨(Nat.le_of_ble_eq_true rfl), (Nat.le_of_ble_eq_true rfl)⟩ rfl hl.1 rfl (Nat.le_of_ble_eq_true rfl) dX8_demandMatch_4 ⟨(Nat.le_of_ble_eq_true rfl), (Nat.le_of_ble_eq_true rfl)⟩) (kx_no rfl) (fun r13 u12 H locs hp11 G => ?_)
  obtain ⟨er14, eu12⟩ := hp11
  rw [eu12] at G
  refine lv_topv (v := (X1_hasMatch_x0 le)) er14 ?_
  refine lv_if_ne (tgt := 26) hx hb dX8_demandMatch_7 (by decide) (fun _ => ?_) (fun c15 => absurd c15 (v0))
  exact g_vret C0 G hr dX8_demandMatch_26 (Nat.le_of_ble_eq_true rfl) (Nat.le_of_ble_eq_true rfl) (by exact rfl)
set_option maxRecDepth 100000 in
theorem c_X8_demandInningsN {l : Launch} (hfl : l.stackTraces = false) {D : va_G} {cy : Nat → ClassId} {f : Hf} {sz : Nat} {x : Nat} {A : Nat → Nat} {b : Nat} {b2 : Nat} {lg : Nat} {lg_o : Nat} {tx : Nat} {rz : Nat} {ro : Nat} {xea : Int32} {xra : Int32} {xkr : Int32} {q : Nat → Option Nat} {cm : Nat → Int32} {cs : Nat → Nat → Nat → Int32} (inn : Int32) (h_x : f x = some (.inr (10, [.ref (A (b + 0)), .ref (A (b2 + 0)), .ref lg, .ref lg_o, .ref tx, .ref rz, .ref ro, .int xea, .int xra, .int xkr]))) (hAj : ∀ i j : Nat, i ≠ j → A i ≠ A j) (hM : MW A b cy q cm cs f) (hQ : HQ A b q) (v0 : (X2_hasBegun_x2 (cm 0) (cm 4) inn) = 0) : hMet l yX8_demandInnings cX8_demandInnings 2 none { frames := 6, cells := 1, slots := 6, locals := 82 } D (hTy cy) f sz [.ref x, .int inn] (hQv (fun u => False) D f sz) (fun E u => E = "java/lang/IndexOutOfBoundsException" ∧ MW A b cy q cm cs u ∧ hFrL f u []) := by
  refine h_enter (by decide) hfl (Nat.le_of_ble_eq_true rfl) ?_
  intro p9 e9 s9 m9 b9 t9 c9 hsz C0 hr hnm G ls hl
  have hx := C0.1.1
  have hb := C0.1.2.1
  have hl : lv_has ls 2 [(0, .ref x), (1, .int inn)] := hl
  refine lv_aload_n hx hb dX8_demandInnings_0 rfl (lv_at hl 0 rfl) ?_
  refine g_get C0 G h_x rfl hiX8 0 (by decide) mf_X8_10 rfl dX8_demandInnings_1 ?_
  refine lv_iload_n hx hb dX8_demandInnings_4 rfl (lv_at hl 1 rfl) ?_
  have k11 : f (A (b + 0)) = some (.inr (4, [.ref (A (b + 1)), .int (cm 0), .int (cm 1), .int (cm 2), .int (cm 3), .int (cm 4)])) := hM 0 (by omega)
  have k12 : f (A (b + 1)) = some (.inl (cy 3, 4, .inr (.inr (.inr (.inr q))))) := hM 1 (by omega)
  refine g_cI C0 G (g_runV C0 G (rest := []) (c_X2_hasBegun hfl (A := A) (b := b) (ex := (cm 0)) (ov := (cm 1)) (ie := (cm 2)) (fi := (cm 3)) (nu := (cm 4)) (q := q) inn k11 k12 hAj hQ.1 hQ.2.1 hQ.2.2.1 hQ.2.2.2) k11 rfl hY_X2_hasBegun mm_X8_339 mi_X2_hasBegun ml_X2_hasBegun ⟨(Nat.le_of_ble_eq_true rfl), (Nat.le_of_ble_eq_true rfl)⟩ rfl hl.1 rfl (Nat.le_of_ble_eq_true rfl) dX8_demandInnings_5 ⟨(Nat.le_of_ble_eq_true rfl), (Nat.le_of_ble_eq_true rfl)⟩) (kx_no rfl) (fun r15 u14 H locs hp13 G => ?_)
  obtain ⟨er16, eu14⟩ := hp13
  rw [eu14] at G
  refine lv_topv (v := (X2_hasBegun_x2 (cm 0) (cm 4) inn)) er16 ?_
  refine lv_if_ne (tgt := 22) hx hb dX8_demandInnings_8 (by decide) (fun c17 => absurd (v0) c17) (fun _ => ?_)
  exact g_throwW C0 G (X := "java/lang/IndexOutOfBoundsException") (by decide) mk_X8_85 mz_java_lang_IndexOutOfBoundsException (is := 342) (text := "no such innings has begun") (by decide) hat_89 hl.1 dX8_demandInnings_11 dX8_demandInnings_14 dX8_demandInnings_15 dX8_demandInnings_18 dX8_demandInnings_21 ⟨(Nat.le_of_ble_eq_true rfl), (Nat.le_of_ble_eq_true rfl)⟩ ⟨(Nat.le_of_ble_eq_true rfl), (Nat.le_of_ble_eq_true rfl)⟩ (Nat.le_of_ble_eq_true rfl) (Nat.le_of_ble_eq_true rfl) (by exact ⟨rfl, hM, (fun a9 e9 h7 h8 => h8)⟩)
set_option maxRecDepth 100000 in
theorem c_X8_demandInningsO {l : Launch} (hfl : l.stackTraces = false) {D : va_G} {cy : Nat → ClassId} {f : Hf} {sz : Nat} {x : Nat} {A : Nat → Nat} {b : Nat} {b2 : Nat} {lg : Nat} {lg_o : Nat} {tx : Nat} {rz : Nat} {ro : Nat} {xea : Int32} {xra : Int32} {xkr : Int32} {q : Nat → Option Nat} {cm : Nat → Int32} {cs : Nat → Nat → Nat → Int32} (inn : Int32) (h_x : f x = some (.inr (10, [.ref (A (b + 0)), .ref (A (b2 + 0)), .ref lg, .ref lg_o, .ref tx, .ref rz, .ref ro, .int xea, .int xra, .int xkr]))) (hAj : ∀ i j : Nat, i ≠ j → A i ≠ A j) (hM : MW A b cy q cm cs f) (hQ : HQ A b q) (v0 : ¬ (X2_hasBegun_x2 (cm 0) (cm 4) inn) = 0) : hMet l yX8_demandInnings cX8_demandInnings 2 none { frames := 1, cells := 0, slots := 0, locals := 21 } D (hTy cy) f sz [.ref x, .int inn] (hQv (fun u => MW A b cy q cm cs u ∧ hFrL f u []) D f sz) hNo := by
  refine h_enter (by decide) hfl (Nat.le_of_ble_eq_true rfl) ?_
  intro p9 e9 s9 m9 b9 t9 c9 hsz C0 hr hnm G ls hl
  have hx := C0.1.1
  have hb := C0.1.2.1
  have hl : lv_has ls 2 [(0, .ref x), (1, .int inn)] := hl
  refine lv_aload_n hx hb dX8_demandInnings_0 rfl (lv_at hl 0 rfl) ?_
  refine g_get C0 G h_x rfl hiX8 0 (by decide) mf_X8_10 rfl dX8_demandInnings_1 ?_
  refine lv_iload_n hx hb dX8_demandInnings_4 rfl (lv_at hl 1 rfl) ?_
  have k11 : f (A (b + 0)) = some (.inr (4, [.ref (A (b + 1)), .int (cm 0), .int (cm 1), .int (cm 2), .int (cm 3), .int (cm 4)])) := hM 0 (by omega)
  have k12 : f (A (b + 1)) = some (.inl (cy 3, 4, .inr (.inr (.inr (.inr q))))) := hM 1 (by omega)
  refine g_cI C0 G (g_runV C0 G (rest := []) (c_X2_hasBegun hfl (A := A) (b := b) (ex := (cm 0)) (ov := (cm 1)) (ie := (cm 2)) (fi := (cm 3)) (nu := (cm 4)) (q := q) inn k11 k12 hAj hQ.1 hQ.2.1 hQ.2.2.1 hQ.2.2.2) k11 rfl hY_X2_hasBegun mm_X8_339 mi_X2_hasBegun ml_X2_hasBegun ⟨(Nat.le_of_ble_eq_true rfl), (Nat.le_of_ble_eq_true rfl)⟩ rfl hl.1 rfl (Nat.le_of_ble_eq_true rfl) dX8_demandInnings_5 ⟨(Nat.le_of_ble_eq_true rfl), (Nat.le_of_ble_eq_true rfl)⟩) (kx_no rfl) (fun r15 u14 H locs hp13 G => ?_)
  obtain ⟨er16, eu14⟩ := hp13
  rw [eu14] at G
  refine lv_topv (v := (X2_hasBegun_x2 (cm 0) (cm 4) inn)) er16 ?_
  refine lv_if_ne (tgt := 22) hx hb dX8_demandInnings_8 (by decide) (fun _ => ?_) (fun c17 => absurd c17 (v0))
  exact g_vret C0 G hr dX8_demandInnings_22 (Nat.le_of_ble_eq_true rfl) (Nat.le_of_ble_eq_true rfl) (by exact ⟨hM, (fun a9 e9 h7 h8 => h8)⟩)
set_option maxRecDepth 100000 in
theorem c_X8_demandPlayerN1 {l : Launch} (hfl : l.stackTraces = false) {D : va_G} {cy : Nat → ClassId} {f : Hf} {sz : Nat} {x : Nat} {A : Nat → Nat} {b : Nat} {b2 : Nat} {lg : Nat} {lg_o : Nat} {tx : Nat} {rz : Nat} {ro : Nat} {xea : Int32} {xra : Int32} {xkr : Int32} {q : Nat → Option Nat} {cm : Nat → Int32} {cs : Nat → Nat → Nat → Int32} (inn : Int32) (pl : Int32) (h_x : f x = some (.inr (10, [.ref (A (b + 0)), .ref (A (b2 + 0)), .ref lg, .ref lg_o, .ref tx, .ref rz, .ref ro, .int xea, .int xra, .int xkr]))) (hAj : ∀ i j : Nat, i ≠ j → A i ≠ A j) (hM : MW A b cy q cm cs f) (hQ : HQ A b q) (v0 : (X2_hasBegun_x2 (cm 0) (cm 4) inn) = 0) : hMet l yX8_demandPlayer cX8_demandPlayer 3 none { frames := 6, cells := 1, slots := 6, locals := 82 } D (hTy cy) f sz [.ref x, .int inn, .int pl] (hQv (fun u => False) D f sz) (fun E u => E = "java/lang/IndexOutOfBoundsException" ∧ MW A b cy q cm cs u ∧ hFrL f u []) := by
  refine h_enter (by decide) hfl (Nat.le_of_ble_eq_true rfl) ?_
  intro p9 e9 s9 m9 b9 t9 c9 hsz C0 hr hnm G ls hl
  have hx := C0.1.1
  have hb := C0.1.2.1
  have hl : lv_has ls 3 [(0, .ref x), (1, .int inn), (2, .int pl)] := hl
  refine lv_aload_n hx hb dX8_demandPlayer_0 rfl (lv_at hl 0 rfl) ?_
  refine g_get C0 G h_x rfl hiX8 0 (by decide) mf_X8_10 rfl dX8_demandPlayer_1 ?_
  refine lv_iload_n hx hb dX8_demandPlayer_4 rfl (lv_at hl 1 rfl) ?_
  have k11 : f (A (b + 0)) = some (.inr (4, [.ref (A (b + 1)), .int (cm 0), .int (cm 1), .int (cm 2), .int (cm 3), .int (cm 4)])) := hM 0 (by omega)
  have k12 : f (A (b + 1)) = some (.inl (cy 3, 4, .inr (.inr (.inr (.inr q))))) := hM 1 (by omega)
  refine g_cI C0 G (g_runV C0 G (rest := []) (c_X2_hasBegun hfl (A := A) (b := b) (ex := (cm 0)) (ov := (cm 1)) (ie := (cm 2)) (fi := (cm 3)) (nu := (cm 4)) (q := q) inn k11 k12 hAj hQ.1 hQ.2.1 hQ.2.2.1 hQ.2.2.2) k11 rfl hY_X2_hasBegun mm_X8_339 mi_X2_hasBegun ml_X2_hasBegun ⟨(Nat.le_of_ble_eq_true rfl), (Nat.le_of_ble_eq_true rfl)⟩ rfl hl.1 rfl (Nat.le_of_ble_eq_true rfl) dX8_demandPlayer_5 ⟨(Nat.le_of_ble_eq_true rfl), (Nat.le_of_ble_eq_true rfl)⟩) (kx_no rfl) (fun r15 u14 H locs hp13 G => ?_)
  obtain ⟨er16, eu14⟩ := hp13
  rw [eu14] at G
  refine lv_topv (v := (X2_hasBegun_x2 (cm 0) (cm 4) inn)) er16 ?_
  refine lv_if_eq (tgt := 18) hx hb dX8_demandPlayer_8 (by decide) (fun _ => ?_) (fun c17 => absurd (v0) c17)
  exact g_throwW C0 G (X := "java/lang/IndexOutOfBoundsException") (by decide) mk_X8_85 mz_java_lang_IndexOutOfBoundsException (is := 344) (text := "no such innings has begun, or no such player") (by decide) hat_89 hl.1 dX8_demandPlayer_18 dX8_demandPlayer_21 dX8_demandPlayer_22 dX8_demandPlayer_25 dX8_demandPlayer_28 ⟨(Nat.le_of_ble_eq_true rfl), (Nat.le_of_ble_eq_true rfl)⟩ ⟨(Nat.le_of_ble_eq_true rfl), (Nat.le_of_ble_eq_true rfl)⟩ (Nat.le_of_ble_eq_true rfl) (Nat.le_of_ble_eq_true rfl) (by exact ⟨rfl, hM, (fun a9 e9 h7 h8 => h8)⟩)
set_option maxRecDepth 100000 in
theorem c_X8_demandPlayerN2 {l : Launch} (hfl : l.stackTraces = false) {D : va_G} {cy : Nat → ClassId} {f : Hf} {sz : Nat} {x : Nat} {A : Nat → Nat} {b : Nat} {b2 : Nat} {lg : Nat} {lg_o : Nat} {tx : Nat} {rz : Nat} {ro : Nat} {xea : Int32} {xra : Int32} {xkr : Int32} {q : Nat → Option Nat} {cm : Nat → Int32} {cs : Nat → Nat → Nat → Int32} (inn : Int32) (pl : Int32) (h_x : f x = some (.inr (10, [.ref (A (b + 0)), .ref (A (b2 + 0)), .ref lg, .ref lg_o, .ref tx, .ref rz, .ref ro, .int xea, .int xra, .int xkr]))) (hAj : ∀ i j : Nat, i ≠ j → A i ≠ A j) (hM : MW A b cy q cm cs f) (hQ : HQ A b q) (v0 : ¬ (X2_hasBegun_x2 (cm 0) (cm 4) inn) = 0) (v1 : (X8_isWithin_x1 pl 0 10) = 0) : hMet l yX8_demandPlayer cX8_demandPlayer 3 none { frames := 6, cells := 1, slots := 6, locals := 82 } D (hTy cy) f sz [.ref x, .int inn, .int pl] (hQv (fun u => False) D f sz) (fun E u => E = "java/lang/IndexOutOfBoundsException" ∧ MW A b cy q cm cs u ∧ hFrL f u []) := by
  refine h_enter (by decide) hfl (Nat.le_of_ble_eq_true rfl) ?_
  intro p9 e9 s9 m9 b9 t9 c9 hsz C0 hr hnm G ls hl
  have hx := C0.1.1
  have hb := C0.1.2.1
  have hl : lv_has ls 3 [(0, .ref x), (1, .int inn), (2, .int pl)] := hl
  refine lv_aload_n hx hb dX8_demandPlayer_0 rfl (lv_at hl 0 rfl) ?_
  refine g_get C0 G h_x rfl hiX8 0 (by decide) mf_X8_10 rfl dX8_demandPlayer_1 ?_
  refine lv_iload_n hx hb dX8_demandPlayer_4 rfl (lv_at hl 1 rfl) ?_
  have k11 : f (A (b + 0)) = some (.inr (4, [.ref (A (b + 1)), .int (cm 0), .int (cm 1), .int (cm 2), .int (cm 3), .int (cm 4)])) := hM 0 (by omega)
  have k12 : f (A (b + 1)) = some (.inl (cy 3, 4, .inr (.inr (.inr (.inr q))))) := hM 1 (by omega)
  refine g_cI C0 G (g_runV C0 G (rest := []) (c_X2_hasBegun hfl (A := A) (b := b) (ex := (cm 0)) (ov := (cm 1)) (ie := (cm 2)) (fi := (cm 3)) (nu := (cm 4)) (q := q) inn k11 k12 hAj hQ.1 hQ.2.1 hQ.2.2.1 hQ.2.2.2) k11 rfl hY_X2_hasBegun mm_X8_339 mi_X2_hasBegun ml_X2_hasBegun ⟨(Nat.le_of_ble_eq_true rfl), (Nat.le_of_ble_eq_true rfl)⟩ rfl hl.1 rfl (Nat.le_of_ble_eq_true rfl) dX8_demandPlayer_5 ⟨(Nat.le_of_ble_eq_true rfl), (Nat.le_of_ble_eq_true rfl)⟩) (kx_no rfl) (fun r15 u14 H locs hp13 G => ?_)
  obtain ⟨er16, eu14⟩ := hp13
  rw [eu14] at G
  refine lv_topv (v := (X2_hasBegun_x2 (cm 0) (cm 4) inn)) er16 ?_
  refine lv_if_eq (tgt := 18) hx hb dX8_demandPlayer_8 (by decide) (fun c17 => absurd c17 (v0)) (fun _ => ?_)
  refine lv_iload_n hx hb dX8_demandPlayer_11 rfl (lv_at hl 2 rfl) ?_
  refine g_cI C0 G (g_runS C0 G (rest := []) (c_X8_isPlayer hfl pl ) hY_X8_isPlayer mm_X8_81 ms_X8_isPlayer ⟨(Nat.le_of_ble_eq_true rfl), (Nat.le_of_ble_eq_true rfl)⟩ rfl hl.1 rfl (Nat.le_of_ble_eq_true rfl) dX8_demandPlayer_12 ⟨(Nat.le_of_ble_eq_true rfl), (Nat.le_of_ble_eq_true rfl)⟩) (kx_no rfl) (fun r20 u19 H locs hp18 G => ?_)
  obtain ⟨er21, eu19⟩ := hp18
  rw [eu19] at G
  refine lv_topv (v := (X8_isWithin_x1 pl 0 10)) er21 ?_
  refine lv_if_ne (tgt := 29) hx hb dX8_demandPlayer_15 (by decide) (fun c22 => absurd (v1) c22) (fun _ => ?_)
  exact g_throwW C0 G (X := "java/lang/IndexOutOfBoundsException") (by decide) mk_X8_85 mz_java_lang_IndexOutOfBoundsException (is := 344) (text := "no such innings has begun, or no such player") (by decide) hat_89 hl.1 dX8_demandPlayer_18 dX8_demandPlayer_21 dX8_demandPlayer_22 dX8_demandPlayer_25 dX8_demandPlayer_28 ⟨(Nat.le_of_ble_eq_true rfl), (Nat.le_of_ble_eq_true rfl)⟩ ⟨(Nat.le_of_ble_eq_true rfl), (Nat.le_of_ble_eq_true rfl)⟩ (Nat.le_of_ble_eq_true rfl) (Nat.le_of_ble_eq_true rfl) (by exact ⟨rfl, hM, (fun a9 e9 h7 h8 => h8)⟩)
set_option maxRecDepth 100000 in
theorem c_X8_demandPlayerO {l : Launch} (hfl : l.stackTraces = false) {D : va_G} {cy : Nat → ClassId} {f : Hf} {sz : Nat} {x : Nat} {A : Nat → Nat} {b : Nat} {b2 : Nat} {lg : Nat} {lg_o : Nat} {tx : Nat} {rz : Nat} {ro : Nat} {xea : Int32} {xra : Int32} {xkr : Int32} {q : Nat → Option Nat} {cm : Nat → Int32} {cs : Nat → Nat → Nat → Int32} (inn : Int32) (pl : Int32) (h_x : f x = some (.inr (10, [.ref (A (b + 0)), .ref (A (b2 + 0)), .ref lg, .ref lg_o, .ref tx, .ref rz, .ref ro, .int xea, .int xra, .int xkr]))) (hAj : ∀ i j : Nat, i ≠ j → A i ≠ A j) (hM : MW A b cy q cm cs f) (hQ : HQ A b q) (v0 : ¬ (X2_hasBegun_x2 (cm 0) (cm 4) inn) = 0) (v1 : ¬ (X8_isWithin_x1 pl 0 10) = 0) : hMet l yX8_demandPlayer cX8_demandPlayer 3 none { frames := 2, cells := 0, slots := 0, locals := 42 } D (hTy cy) f sz [.ref x, .int inn, .int pl] (hQv (fun u => MW A b cy q cm cs u ∧ hFrL f u []) D f sz) hNo := by
  refine h_enter (by decide) hfl (Nat.le_of_ble_eq_true rfl) ?_
  intro p9 e9 s9 m9 b9 t9 c9 hsz C0 hr hnm G ls hl
  have hx := C0.1.1
  have hb := C0.1.2.1
  have hl : lv_has ls 3 [(0, .ref x), (1, .int inn), (2, .int pl)] := hl
  refine lv_aload_n hx hb dX8_demandPlayer_0 rfl (lv_at hl 0 rfl) ?_
  refine g_get C0 G h_x rfl hiX8 0 (by decide) mf_X8_10 rfl dX8_demandPlayer_1 ?_
  refine lv_iload_n hx hb dX8_demandPlayer_4 rfl (lv_at hl 1 rfl) ?_
  have k11 : f (A (b + 0)) = some (.inr (4, [.ref (A (b + 1)), .int (cm 0), .int (cm 1), .int (cm 2), .int (cm 3), .int (cm 4)])) := hM 0 (by omega)
  have k12 : f (A (b + 1)) = some (.inl (cy 3, 4, .inr (.inr (.inr (.inr q))))) := hM 1 (by omega)
  refine g_cI C0 G (g_runV C0 G (rest := []) (c_X2_hasBegun hfl (A := A) (b := b) (ex := (cm 0)) (ov := (cm 1)) (ie := (cm 2)) (fi := (cm 3)) (nu := (cm 4)) (q := q) inn k11 k12 hAj hQ.1 hQ.2.1 hQ.2.2.1 hQ.2.2.2) k11 rfl hY_X2_hasBegun mm_X8_339 mi_X2_hasBegun ml_X2_hasBegun ⟨(Nat.le_of_ble_eq_true rfl), (Nat.le_of_ble_eq_true rfl)⟩ rfl hl.1 rfl (Nat.le_of_ble_eq_true rfl) dX8_demandPlayer_5 ⟨(Nat.le_of_ble_eq_true rfl), (Nat.le_of_ble_eq_true rfl)⟩) (kx_no rfl) (fun r15 u14 H locs hp13 G => ?_)
  obtain ⟨er16, eu14⟩ := hp13
  rw [eu14] at G
  refine lv_topv (v := (X2_hasBegun_x2 (cm 0) (cm 4) inn)) er16 ?_
  refine lv_if_eq (tgt := 18) hx hb dX8_demandPlayer_8 (by decide) (fun c17 => absurd c17 (v0)) (fun _ => ?_)
  refine lv_iload_n hx hb dX8_demandPlayer_11 rfl (lv_at hl 2 rfl) ?_
  refine g_cI C0 G (g_runS C0 G (rest := []) (c_X8_isPlayer hfl pl ) hY_X8_isPlayer mm_X8_81 ms_X8_isPlayer ⟨(Nat.le_of_ble_eq_true rfl), (Nat.le_of_ble_eq_true rfl)⟩ rfl hl.1 rfl (Nat.le_of_ble_eq_true rfl) dX8_demandPlayer_12 ⟨(Nat.le_of_ble_eq_true rfl), (Nat.le_of_ble_eq_true rfl)⟩) (kx_no rfl) (fun r20 u19 H locs hp18 G => ?_)
  obtain ⟨er21, eu19⟩ := hp18
  rw [eu19] at G
  refine lv_topv (v := (X8_isWithin_x1 pl 0 10)) er21 ?_
  refine lv_if_ne (tgt := 29) hx hb dX8_demandPlayer_15 (by decide) (fun _ => ?_) (fun c22 => absurd c22 (v1))
  exact g_vret C0 G hr dX8_demandPlayer_29 (Nat.le_of_ble_eq_true rfl) (Nat.le_of_ble_eq_true rfl) (by exact ⟨hM, (fun a9 e9 h7 h8 => h8)⟩)
set_option maxRecDepth 100000 in
theorem c_X8_demandRowN {l : Launch} (hfl : l.stackTraces = false) {D : va_G} {cy : Nat → ClassId} {f : Hf} {sz : Nat} (row : Int32)  (v0 : (X8_isWithin_x1 row 0 1) = 0) : hMet l yX8_demandRow cX8_demandRow 1 none { frames := 6, cells := 1, slots := 6, locals := 82 } D (hTy cy) f sz [.int row] (hQv (fun u => False) D f sz) (fun E u => E = "java/lang/IndexOutOfBoundsException" ∧ u = f) := by
  refine h_enter (by decide) hfl (Nat.le_of_ble_eq_true rfl) ?_
  intro p9 e9 s9 m9 b9 t9 c9 hsz C0 hr hnm G ls hl
  have hx := C0.1.1
  have hb := C0.1.2.1
  have hl : lv_has ls 1 [(0, .int row)] := hl
  refine lv_iload_n hx hb dX8_demandRow_0 rfl (lv_at hl 0 rfl) ?_
  refine lv_iconst (v := 0) hx hb dX8_demandRow_1 (by decide) ?_
  refine lv_iconst (v := 1) hx hb dX8_demandRow_2 (by decide) ?_
  refine g_cI C0 G (g_runS C0 G (rest := []) (c_X8_isWithin hfl row 0 1 ) hY_X8_isWithin mm_X8_56 ms_X8_isWithin ⟨(Nat.le_of_ble_eq_true rfl), (Nat.le_of_ble_eq_true rfl)⟩ rfl hl.1 rfl (Nat.le_of_ble_eq_true rfl) dX8_demandRow_3 ⟨(Nat.le_of_ble_eq_true rfl), (Nat.le_of_ble_eq_true rfl)⟩) (kx_no rfl) (fun r13 u12 H locs hp11 G => ?_)
  obtain ⟨er14, eu12⟩ := hp11
  rw [eu12] at G
  refine lv_topv (v := (X8_isWithin_x1 row 0 1)) er14 ?_
  refine lv_if_ne (tgt := 20) hx hb dX8_demandRow_6 (by decide) (fun c15 => absurd (v0) c15) (fun _ => ?_)
  exact g_throwW C0 G (X := "java/lang/IndexOutOfBoundsException") (by decide) mk_X8_85 mz_java_lang_IndexOutOfBoundsException (is := 346) (text := "no such row") (by decide) hat_89 hl.1 dX8_demandRow_9 dX8_demandRow_12 dX8_demandRow_13 dX8_demandRow_16 dX8_demandRow_19 ⟨(Nat.le_of_ble_eq_true rfl), (Nat.le_of_ble_eq_true rfl)⟩ ⟨(Nat.le_of_ble_eq_true rfl), (Nat.le_of_ble_eq_true rfl)⟩ (Nat.le_of_ble_eq_true rfl) (Nat.le_of_ble_eq_true rfl) (by exact ⟨rfl, rfl⟩)
set_option maxRecDepth 100000 in
theorem c_X8_demandRowO {l : Launch} (hfl : l.stackTraces = false) {D : va_G} {cy : Nat → ClassId} {f : Hf} {sz : Nat} (row : Int32)  (v0 : ¬ (X8_isWithin_x1 row 0 1) = 0) : hMet l yX8_demandRow cX8_demandRow 1 none { frames := 1, cells := 0, slots := 0, locals := 22 } D (hTy cy) f sz [.int row] (hQv (fun u => u = f) D f sz) hNo := by
  refine h_enter (by decide) hfl (Nat.le_of_ble_eq_true rfl) ?_
  intro p9 e9 s9 m9 b9 t9 c9 hsz C0 hr hnm G ls hl
  have hx := C0.1.1
  have hb := C0.1.2.1
  have hl : lv_has ls 1 [(0, .int row)] := hl
  refine lv_iload_n hx hb dX8_demandRow_0 rfl (lv_at hl 0 rfl) ?_
  refine lv_iconst (v := 0) hx hb dX8_demandRow_1 (by decide) ?_
  refine lv_iconst (v := 1) hx hb dX8_demandRow_2 (by decide) ?_
  refine g_cI C0 G (g_runS C0 G (rest := []) (c_X8_isWithin hfl row 0 1 ) hY_X8_isWithin mm_X8_56 ms_X8_isWithin ⟨(Nat.le_of_ble_eq_true rfl), (Nat.le_of_ble_eq_true rfl)⟩ rfl hl.1 rfl (Nat.le_of_ble_eq_true rfl) dX8_demandRow_3 ⟨(Nat.le_of_ble_eq_true rfl), (Nat.le_of_ble_eq_true rfl)⟩) (kx_no rfl) (fun r13 u12 H locs hp11 G => ?_)
  obtain ⟨er14, eu12⟩ := hp11
  rw [eu12] at G
  refine lv_topv (v := (X8_isWithin_x1 row 0 1)) er14 ?_
  refine lv_if_ne (tgt := 20) hx hb dX8_demandRow_6 (by decide) (fun _ => ?_) (fun c15 => absurd c15 (v0))
  exact g_vret C0 G hr dX8_demandRow_20 (Nat.le_of_ble_eq_true rfl) (Nat.le_of_ble_eq_true rfl) (by exact rfl)
set_option maxRecDepth 100000 in
theorem c_X8_rowAt0 {l : Launch} (hfl : l.stackTraces = false) {D : va_G} {cy : Nat → ClassId} {f : Hf} {sz : Nat} {x : Nat} {A : Nat → Nat} {b : Nat} {b2 : Nat} {lg : Nat} {lg_o : Nat} {tx : Nat} {rz : Nat} {ro : Nat} {xea : Int32} {xra : Int32} {xkr : Int32} (h_x : f x = some (.inr (10, [.ref (A (b + 0)), .ref (A (b2 + 0)), .ref lg, .ref lg_o, .ref tx, .ref rz, .ref ro, .int xea, .int xra, .int xkr])))  : hMet l yX8_rowAt cX8_rowAt 2 (some (.object "WicketScorer$Row")) { frames := 0, cells := 0, slots := 0, locals := 0 } D (hTy cy) f sz [.ref x, .int 0] (hQr (fun r u => r = rz ∧ u = f) D f sz) hNo := by
  refine h_enter (by decide) hfl (Nat.le_of_ble_eq_true rfl) ?_
  intro p9 e9 s9 m9 b9 t9 c9 hsz C0 hr hnm G ls hl
  have hx := C0.1.1
  have hb := C0.1.2.1
  have hl : lv_has ls 2 [(0, .ref x), (1, .int 0)] := hl
  refine lv_iload_n hx hb dX8_rowAt_0 rfl (lv_at hl 1 rfl) ?_
  refine lv_if_ne (tgt := 11) hx hb dX8_rowAt_1 (by decide) (fun c11 => absurd (by decide) c11) (fun _ => ?_)
  refine lv_aload_n hx hb dX8_rowAt_4 rfl (lv_at hl 0 rfl) ?_
  refine g_get C0 G h_x rfl hiX8 5 (by decide) mf_X8_39 rfl dX8_rowAt_5 ?_
  refine lv_goto (tgt := 15) hx hb dX8_rowAt_8 (by decide) ?_
  exact g_aret C0 G hr dX8_rowAt_15 (Nat.le_of_ble_eq_true rfl) (Nat.le_of_ble_eq_true rfl) (by exact ⟨rfl, rfl⟩)
set_option maxRecDepth 100000 in
theorem c_X8_rowAt1 {l : Launch} (hfl : l.stackTraces = false) {D : va_G} {cy : Nat → ClassId} {f : Hf} {sz : Nat} {x : Nat} {A : Nat → Nat} {b : Nat} {b2 : Nat} {lg : Nat} {lg_o : Nat} {tx : Nat} {rz : Nat} {ro : Nat} {xea : Int32} {xra : Int32} {xkr : Int32} (h_x : f x = some (.inr (10, [.ref (A (b + 0)), .ref (A (b2 + 0)), .ref lg, .ref lg_o, .ref tx, .ref rz, .ref ro, .int xea, .int xra, .int xkr])))  : hMet l yX8_rowAt cX8_rowAt 2 (some (.object "WicketScorer$Row")) { frames := 0, cells := 0, slots := 0, locals := 0 } D (hTy cy) f sz [.ref x, .int 1] (hQr (fun r u => r = ro ∧ u = f) D f sz) hNo := by
  refine h_enter (by decide) hfl (Nat.le_of_ble_eq_true rfl) ?_
  intro p9 e9 s9 m9 b9 t9 c9 hsz C0 hr hnm G ls hl
  have hx := C0.1.1
  have hb := C0.1.2.1
  have hl : lv_has ls 2 [(0, .ref x), (1, .int 1)] := hl
  refine lv_iload_n hx hb dX8_rowAt_0 rfl (lv_at hl 1 rfl) ?_
  refine lv_if_ne (tgt := 11) hx hb dX8_rowAt_1 (by decide) (fun _ => ?_) (fun c11 => absurd c11 (by decide))
  refine lv_aload_n hx hb dX8_rowAt_11 rfl (lv_at hl 0 rfl) ?_
  refine g_get C0 G h_x rfl hiX8 6 (by decide) mf_X8_43 rfl dX8_rowAt_12 ?_
  exact g_aret C0 G hr dX8_rowAt_15 (Nat.le_of_ble_eq_true rfl) (Nat.le_of_ble_eq_true rfl) (by exact ⟨rfl, rfl⟩)
def X6_hasRow_x0 (rows : Int32) (k9 : Int32) : Int32 := if rows ≤ k9 then 0 else 1
def X6_hasRow_x1 (rows : Int32) (k9 : Int32) : Int32 := if k9 < 0 then 0 else (X6_hasRow_x0 rows k9)
set_option maxRecDepth 100000 in
theorem c_X6_hasRow {l : Launch} (hfl : l.stackTraces = false) {D : va_G} {cy : Nat → ClassId} {f : Hf} {sz : Nat} {t : Nat} {c : Nat} {cols : Int32} {rows : Int32} (k9 : Int32) (h_t : f t = some (.inr (8, [.int cols, .ref c, .int rows])))  : hMet l yX6_hasRow cX6_hasRow 2 (some .boolean) { frames := 0, cells := 0, slots := 0, locals := 0 } D (hTy cy) f sz [.ref t, .int k9] (hQi (fun r u => r = (X6_hasRow_x1 rows k9) ∧ u = f) D f sz) hNo := by
  refine h_enter (by decide) hfl (Nat.le_of_ble_eq_true rfl) ?_
  intro p9 e9 s9 m9 b9 t9 c9 hsz C0 hr hnm G ls hl
  have hx := C0.1.1
  have hb := C0.1.2.1
  have hl : lv_has ls 2 [(0, .ref t), (1, .int k9)] := hl
  refine lv_iload_n hx hb dX6_hasRow_0 rfl (lv_at hl 1 rfl) ?_
  have J13 : ∀ (y12 : Int32) (_ : y12 = (X6_hasRow_x1 rows k9)) (H : Heap) (locs : List Loc) (ls : Array Slot), hG D (hA f sz) f s9 H locs → lv_has ls 2 [(0, .ref t), (1, .int k9)] → W p9 l e9 ({ frames := 0, cells := 0, slots := 0, locals := 0 } : Room) s9 m9 ([.ref t, .int k9] : List Value).toArray b9 t9 c9 H locs 0 0 (vx_MQ b9 (hQi (fun r u => r = (X6_hasRow_x1 rows k9) ∧ u = f) D f sz) (hPx hNo D f sz) ([.ref t, .int k9] : List Value).toArray s9 0 0 (hA f sz)) (F0 m9 17 ls [.int y12]) := by
    intro y12 ey12 H locs ls G hl
    replace ey12 := Eq.symm ey12
    subst ey12
    exact g_zret C0 G hr dX6_hasRow_17 (hZb (by unfold X6_hasRow_x1; split; exact (Or.inl rfl); exact (by unfold X6_hasRow_x0; split; exact (Or.inl rfl); exact (Or.inr rfl)))) (Nat.le_of_ble_eq_true rfl) (Nat.le_of_ble_eq_true rfl) (by exact ⟨rfl, rfl⟩)
  refine lv_if_lt (tgt := 16) hx hb dX6_hasRow_1 (by decide) (fun c11 => ?_) (fun c11 => ?_)
  · refine lv_iconst (v := 0) hx hb dX6_hasRow_16 (by decide) ?_
    exact J13 0 (by rw [X6_hasRow_x1, if_pos c11]) _ _ _ G (lv_sub hl [0, 1] rfl)
  · refine lv_iload_n hx hb dX6_hasRow_4 rfl (lv_at hl 1 rfl) ?_
    refine lv_aload_n hx hb dX6_hasRow_5 rfl (lv_at hl 0 rfl) ?_
    refine g_get C0 G h_t rfl hiX6 2 (by decide) mf_X6_7 rfl dX6_hasRow_6 ?_
    have J17 : ∀ (y16 : Int32) (_ : y16 = (X6_hasRow_x0 rows k9)) (H : Heap) (locs : List Loc) (ls : Array Slot), hG D (hA f sz) f s9 H locs → lv_has ls 2 [(0, .ref t), (1, .int k9)] → W p9 l e9 ({ frames := 0, cells := 0, slots := 0, locals := 0 } : Room) s9 m9 ([.ref t, .int k9] : List Value).toArray b9 t9 c9 H locs 0 0 (vx_MQ b9 (hQi (fun r u => r = (X6_hasRow_x1 rows k9) ∧ u = f) D f sz) (hPx hNo D f sz) ([.ref t, .int k9] : List Value).toArray s9 0 0 (hA f sz)) (F0 m9 17 ls [.int y16]) := by
      intro y16 ey16 H locs ls G hl
      replace ey16 := Eq.symm ey16
      subst ey16
      exact J13 (X6_hasRow_x0 rows k9) (by rw [X6_hasRow_x1, if_neg c11]) _ _ _ G (lv_sub hl [0, 1] rfl)
    refine lv_icmp_ge (tgt := 16) hx hb dX6_hasRow_9 (by decide) (fun c15 => ?_) (fun c15 => ?_)
    · refine lv_iconst (v := 0) hx hb dX6_hasRow_16 (by decide) ?_
      exact J17 0 (by rw [X6_hasRow_x0, if_pos c15]) _ _ _ G (lv_sub hl [0, 1] rfl)
    · refine lv_iconst (v := 1) hx hb dX6_hasRow_12 (by decide) ?_
      refine lv_goto (tgt := 17) hx hb dX6_hasRow_13 (by decide) ?_
      exact J17 1 (by rw [X6_hasRow_x0, if_neg c15]) _ _ _ G (lv_sub hl [0, 1] rfl)
theorem b_c_X6_hasRow (rows : Int32) (k9 : Int32) : (X6_hasRow_x1 rows k9) = 0 ∨ (X6_hasRow_x1 rows k9) = 1 := (by unfold X6_hasRow_x1; split; exact (Or.inl rfl); exact (by unfold X6_hasRow_x0; split; exact (Or.inl rfl); exact (Or.inr rfl)))
def X6_hasColumn_x0 (cols : Int32) (k9 : Int32) : Int32 := if cols ≤ k9 then 0 else 1
def X6_hasColumn_x1 (cols : Int32) (k9 : Int32) : Int32 := if k9 < 0 then 0 else (X6_hasColumn_x0 cols k9)
set_option maxRecDepth 100000 in
theorem c_X6_hasColumn {l : Launch} (hfl : l.stackTraces = false) {D : va_G} {cy : Nat → ClassId} {f : Hf} {sz : Nat} {t : Nat} {c : Nat} {cols : Int32} {rows : Int32} (k9 : Int32) (h_t : f t = some (.inr (8, [.int cols, .ref c, .int rows])))  : hMet l yX6_hasColumn cX6_hasColumn 2 (some .boolean) { frames := 0, cells := 0, slots := 0, locals := 0 } D (hTy cy) f sz [.ref t, .int k9] (hQi (fun r u => r = (X6_hasColumn_x1 cols k9) ∧ u = f) D f sz) hNo := by
  refine h_enter (by decide) hfl (Nat.le_of_ble_eq_true rfl) ?_
  intro p9 e9 s9 m9 b9 t9 c9 hsz C0 hr hnm G ls hl
  have hx := C0.1.1
  have hb := C0.1.2.1
  have hl : lv_has ls 2 [(0, .ref t), (1, .int k9)] := hl
  refine lv_iload_n hx hb dX6_hasColumn_0 rfl (lv_at hl 1 rfl) ?_
  have J13 : ∀ (y12 : Int32) (_ : y12 = (X6_hasColumn_x1 cols k9)) (H : Heap) (locs : List Loc) (ls : Array Slot), hG D (hA f sz) f s9 H locs → lv_has ls 2 [(0, .ref t), (1, .int k9)] → W p9 l e9 ({ frames := 0, cells := 0, slots := 0, locals := 0 } : Room) s9 m9 ([.ref t, .int k9] : List Value).toArray b9 t9 c9 H locs 0 0 (vx_MQ b9 (hQi (fun r u => r = (X6_hasColumn_x1 cols k9) ∧ u = f) D f sz) (hPx hNo D f sz) ([.ref t, .int k9] : List Value).toArray s9 0 0 (hA f sz)) (F0 m9 17 ls [.int y12]) := by
    intro y12 ey12 H locs ls G hl
    replace ey12 := Eq.symm ey12
    subst ey12
    exact g_zret C0 G hr dX6_hasColumn_17 (hZb (by unfold X6_hasColumn_x1; split; exact (Or.inl rfl); exact (by unfold X6_hasColumn_x0; split; exact (Or.inl rfl); exact (Or.inr rfl)))) (Nat.le_of_ble_eq_true rfl) (Nat.le_of_ble_eq_true rfl) (by exact ⟨rfl, rfl⟩)
  refine lv_if_lt (tgt := 16) hx hb dX6_hasColumn_1 (by decide) (fun c11 => ?_) (fun c11 => ?_)
  · refine lv_iconst (v := 0) hx hb dX6_hasColumn_16 (by decide) ?_
    exact J13 0 (by rw [X6_hasColumn_x1, if_pos c11]) _ _ _ G (lv_sub hl [0, 1] rfl)
  · refine lv_iload_n hx hb dX6_hasColumn_4 rfl (lv_at hl 1 rfl) ?_
    refine lv_aload_n hx hb dX6_hasColumn_5 rfl (lv_at hl 0 rfl) ?_
    refine g_get C0 G h_t rfl hiX6 0 (by decide) mf_X6_13 rfl dX6_hasColumn_6 ?_
    have J17 : ∀ (y16 : Int32) (_ : y16 = (X6_hasColumn_x0 cols k9)) (H : Heap) (locs : List Loc) (ls : Array Slot), hG D (hA f sz) f s9 H locs → lv_has ls 2 [(0, .ref t), (1, .int k9)] → W p9 l e9 ({ frames := 0, cells := 0, slots := 0, locals := 0 } : Room) s9 m9 ([.ref t, .int k9] : List Value).toArray b9 t9 c9 H locs 0 0 (vx_MQ b9 (hQi (fun r u => r = (X6_hasColumn_x1 cols k9) ∧ u = f) D f sz) (hPx hNo D f sz) ([.ref t, .int k9] : List Value).toArray s9 0 0 (hA f sz)) (F0 m9 17 ls [.int y16]) := by
      intro y16 ey16 H locs ls G hl
      replace ey16 := Eq.symm ey16
      subst ey16
      exact J13 (X6_hasColumn_x0 cols k9) (by rw [X6_hasColumn_x1, if_neg c11]) _ _ _ G (lv_sub hl [0, 1] rfl)
    refine lv_icmp_ge (tgt := 16) hx hb dX6_hasColumn_9 (by decide) (fun c15 => ?_) (fun c15 => ?_)
    · refine lv_iconst (v := 0) hx hb dX6_hasColumn_16 (by decide) ?_
      exact J17 0 (by rw [X6_hasColumn_x0, if_pos c15]) _ _ _ G (lv_sub hl [0, 1] rfl)
    · refine lv_iconst (v := 1) hx hb dX6_hasColumn_12 (by decide) ?_
      refine lv_goto (tgt := 17) hx hb dX6_hasColumn_13 (by decide) ?_
      exact J17 1 (by rw [X6_hasColumn_x0, if_neg c15]) _ _ _ G (lv_sub hl [0, 1] rfl)
theorem b_c_X6_hasColumn (cols : Int32) (k9 : Int32) : (X6_hasColumn_x1 cols k9) = 0 ∨ (X6_hasColumn_x1 cols k9) = 1 := (by unfold X6_hasColumn_x1; split; exact (Or.inl rfl); exact (by unfold X6_hasColumn_x0; split; exact (Or.inl rfl); exact (Or.inr rfl)))
set_option maxRecDepth 100000 in
theorem c_X8_tableNumberK {l : Launch} (hfl : l.stackTraces = false) {D : va_G} {cy : Nat → ClassId} {f : Hf} {sz : Nat} {t : Nat} {c : Nat} {n : Nat} {cols : Int32} {rows : Int32} {g : Nat → Int32} (k : Int32) (what : Int32) (h_t : f t = some (.inr (8, [.int cols, .ref c, .int rows]))) (h_c : f c = some (.inl (cy 0, n, .inl g))) (v0 : (X6_hasRow_x1 rows k) = 0) (hnn : n < 2147483648) : hMet l yX8_tableNumber cX8_tableNumber 3 (some .int) { frames := 6, cells := 1, slots := 6, locals := 82 } D (hTy cy) f sz [.ref t, .int k, .int what] (hQi (fun r u => False) D f sz) (fun E u => E = "java/util/NoSuchElementException" ∧ u = f) := by
  refine h_enter (by decide) hfl (Nat.le_of_ble_eq_true rfl) ?_
  intro p9 e9 s9 m9 b9 t9 c9 hsz C0 hr hnm G ls hl
  have hx := C0.1.1
  have hb := C0.1.2.1
  have hl : lv_has ls 3 [(0, .ref t), (1, .int k), (2, .int what)] := hl
  refine lv_aload_n hx hb dX8_tableNumber_0 rfl (lv_at hl 0 rfl) ?_
  refine lv_iload_n hx hb dX8_tableNumber_1 rfl (lv_at hl 1 rfl) ?_
  refine g_cI C0 G (g_runV C0 G (rest := []) (c_X6_hasRow hfl (cols := cols) (rows := rows) k h_t) h_t rfl hY_X6_hasRow mm_X8_240 mi_X6_hasRow ml_X6_hasRow ⟨(Nat.le_of_ble_eq_true rfl), (Nat.le_of_ble_eq_true rfl)⟩ rfl hl.1 rfl (Nat.le_of_ble_eq_true rfl) dX8_tableNumber_2 ⟨(Nat.le_of_ble_eq_true rfl), (Nat.le_of_ble_eq_true rfl)⟩) (kx_no rfl) (fun r13 u12 H locs hp11 G => ?_)
  obtain ⟨er14, eu12⟩ := hp11
  rw [eu12] at G
  refine lv_topv (v := (X6_hasRow_x1 rows k)) er14 ?_
  refine lv_if_ne (tgt := 18) hx hb dX8_tableNumber_5 (by decide) (fun c15 => absurd (v0) c15) (fun _ => ?_)
  exact g_throwN C0 G mk_X8_185 mz_java_util_NoSuchElementException (is := 243) (text := "no such index") (by decide) hl.1 dX8_tableNumber_8 dX8_tableNumber_11 ⟨dX8_tableNumber_12, dX8_tableNumber_14, dX8_tableNumber_17⟩ ⟨(Nat.le_of_ble_eq_true rfl), (Nat.le_of_ble_eq_true rfl)⟩ ⟨(Nat.le_of_ble_eq_true rfl), (Nat.le_of_ble_eq_true rfl)⟩ (Nat.le_of_ble_eq_true rfl) (Nat.le_of_ble_eq_true rfl) (by exact ⟨rfl, rfl⟩)
set_option maxRecDepth 100000 in
theorem c_X8_tableNumberW {l : Launch} (hfl : l.stackTraces = false) {D : va_G} {cy : Nat → ClassId} {f : Hf} {sz : Nat} {t : Nat} {c : Nat} {n : Nat} {cols : Int32} {rows : Int32} {g : Nat → Int32} (k : Int32) (what : Int32) (h_t : f t = some (.inr (8, [.int cols, .ref c, .int rows]))) (h_c : f c = some (.inl (cy 0, n, .inl g))) (v0 : ¬ (X6_hasRow_x1 rows k) = 0) (v1 : (X6_hasColumn_x1 cols what) = 0) (hnn : n < 2147483648) : hMet l yX8_tableNumber cX8_tableNumber 3 (some .int) { frames := 6, cells := 1, slots := 6, locals := 82 } D (hTy cy) f sz [.ref t, .int k, .int what] (hQi (fun r u => False) D f sz) (fun E u => E = "java/lang/IllegalArgumentException" ∧ u = f) := by
  refine h_enter (by decide) hfl (Nat.le_of_ble_eq_true rfl) ?_
  intro p9 e9 s9 m9 b9 t9 c9 hsz C0 hr hnm G ls hl
  have hx := C0.1.1
  have hb := C0.1.2.1
  have hl : lv_has ls 3 [(0, .ref t), (1, .int k), (2, .int what)] := hl
  refine lv_aload_n hx hb dX8_tableNumber_0 rfl (lv_at hl 0 rfl) ?_
  refine lv_iload_n hx hb dX8_tableNumber_1 rfl (lv_at hl 1 rfl) ?_
  refine g_cI C0 G (g_runV C0 G (rest := []) (c_X6_hasRow hfl (cols := cols) (rows := rows) k h_t) h_t rfl hY_X6_hasRow mm_X8_240 mi_X6_hasRow ml_X6_hasRow ⟨(Nat.le_of_ble_eq_true rfl), (Nat.le_of_ble_eq_true rfl)⟩ rfl hl.1 rfl (Nat.le_of_ble_eq_true rfl) dX8_tableNumber_2 ⟨(Nat.le_of_ble_eq_true rfl), (Nat.le_of_ble_eq_true rfl)⟩) (kx_no rfl) (fun r13 u12 H locs hp11 G => ?_)
  obtain ⟨er14, eu12⟩ := hp11
  rw [eu12] at G
  refine lv_topv (v := (X6_hasRow_x1 rows k)) er14 ?_
  refine lv_if_ne (tgt := 18) hx hb dX8_tableNumber_5 (by decide) (fun _ => ?_) (fun c15 => absurd c15 (v0))
  refine lv_aload_n hx hb dX8_tableNumber_18 rfl (lv_at hl 0 rfl) ?_
  refine lv_iload_n hx hb dX8_tableNumber_19 rfl (lv_at hl 2 rfl) ?_
  refine g_cI C0 G (g_runV C0 G (rest := []) (c_X6_hasColumn hfl (cols := cols) (rows := rows) what h_t) h_t rfl hY_X6_hasColumn mm_X8_245 mi_X6_hasColumn ml_X6_hasColumn ⟨(Nat.le_of_ble_eq_true rfl), (Nat.le_of_ble_eq_true rfl)⟩ rfl hl.1 rfl (Nat.le_of_ble_eq_true rfl) dX8_tableNumber_20 ⟨(Nat.le_of_ble_eq_true rfl), (Nat.le_of_ble_eq_true rfl)⟩) (kx_no rfl) (fun r18 u17 H locs hp16 G => ?_)
  obtain ⟨er19, eu17⟩ := hp16
  rw [eu17] at G
  refine lv_topv (v := (X6_hasColumn_x1 cols what)) er19 ?_
  refine lv_if_ne (tgt := 36) hx hb dX8_tableNumber_23 (by decide) (fun c20 => absurd (v1) c20) (fun _ => ?_)
  exact g_throw C0 G (X := "java/lang/IllegalArgumentException") (by decide) mk_X8_60 mz_java_lang_IllegalArgumentException (is := 192) (text := "no such number") (by decide) hat_64 hl.1 dX8_tableNumber_26 dX8_tableNumber_29 dX8_tableNumber_30 dX8_tableNumber_32 dX8_tableNumber_35 ⟨(Nat.le_of_ble_eq_true rfl), (Nat.le_of_ble_eq_true rfl)⟩ ⟨(Nat.le_of_ble_eq_true rfl), (Nat.le_of_ble_eq_true rfl)⟩ (Nat.le_of_ble_eq_true rfl) (Nat.le_of_ble_eq_true rfl) (by exact ⟨rfl, rfl⟩)
set_option maxRecDepth 100000 in
theorem c_X8_tableNumberY {l : Launch} (hfl : l.stackTraces = false) {D : va_G} {cy : Nat → ClassId} {f : Hf} {sz : Nat} {t : Nat} {c : Nat} {n : Nat} {cols : Int32} {rows : Int32} {g : Nat → Int32} (k : Int32) (what : Int32) (h_t : f t = some (.inr (8, [.int cols, .ref c, .int rows]))) (h_c : f c = some (.inl (cy 0, n, .inl g))) (v0 : ¬ (X6_hasRow_x1 rows k) = 0) (v1 : ¬ (X6_hasColumn_x1 cols what) = 0) (hnn : n < 2147483648) : hMet l yX8_tableNumber cX8_tableNumber 3 (some .int) { frames := 1, cells := 0, slots := 0, locals := 24 } D (hTy cy) f sz [.ref t, .int k, .int what] (hQi (fun r u => r = (tget cols rows n g k what) ∧ u = f) D f sz) hNo := by
  refine h_enter (by decide) hfl (Nat.le_of_ble_eq_true rfl) ?_
  intro p9 e9 s9 m9 b9 t9 c9 hsz C0 hr hnm G ls hl
  have hx := C0.1.1
  have hb := C0.1.2.1
  have hl : lv_has ls 3 [(0, .ref t), (1, .int k), (2, .int what)] := hl
  refine lv_aload_n hx hb dX8_tableNumber_0 rfl (lv_at hl 0 rfl) ?_
  refine lv_iload_n hx hb dX8_tableNumber_1 rfl (lv_at hl 1 rfl) ?_
  refine g_cI C0 G (g_runV C0 G (rest := []) (c_X6_hasRow hfl (cols := cols) (rows := rows) k h_t) h_t rfl hY_X6_hasRow mm_X8_240 mi_X6_hasRow ml_X6_hasRow ⟨(Nat.le_of_ble_eq_true rfl), (Nat.le_of_ble_eq_true rfl)⟩ rfl hl.1 rfl (Nat.le_of_ble_eq_true rfl) dX8_tableNumber_2 ⟨(Nat.le_of_ble_eq_true rfl), (Nat.le_of_ble_eq_true rfl)⟩) (kx_no rfl) (fun r13 u12 H locs hp11 G => ?_)
  obtain ⟨er14, eu12⟩ := hp11
  rw [eu12] at G
  refine lv_topv (v := (X6_hasRow_x1 rows k)) er14 ?_
  refine lv_if_ne (tgt := 18) hx hb dX8_tableNumber_5 (by decide) (fun _ => ?_) (fun c15 => absurd c15 (v0))
  refine lv_aload_n hx hb dX8_tableNumber_18 rfl (lv_at hl 0 rfl) ?_
  refine lv_iload_n hx hb dX8_tableNumber_19 rfl (lv_at hl 2 rfl) ?_
  refine g_cI C0 G (g_runV C0 G (rest := []) (c_X6_hasColumn hfl (cols := cols) (rows := rows) what h_t) h_t rfl hY_X6_hasColumn mm_X8_245 mi_X6_hasColumn ml_X6_hasColumn ⟨(Nat.le_of_ble_eq_true rfl), (Nat.le_of_ble_eq_true rfl)⟩ rfl hl.1 rfl (Nat.le_of_ble_eq_true rfl) dX8_tableNumber_20 ⟨(Nat.le_of_ble_eq_true rfl), (Nat.le_of_ble_eq_true rfl)⟩) (kx_no rfl) (fun r18 u17 H locs hp16 G => ?_)
  obtain ⟨er19, eu17⟩ := hp16
  rw [eu17] at G
  refine lv_topv (v := (X6_hasColumn_x1 cols what)) er19 ?_
  refine lv_if_ne (tgt := 36) hx hb dX8_tableNumber_23 (by decide) (fun _ => ?_) (fun c20 => absurd c20 (v1))
  refine lv_aload_n hx hb dX8_tableNumber_36 rfl (lv_at hl 0 rfl) ?_
  refine lv_iload_n hx hb dX8_tableNumber_37 rfl (lv_at hl 1 rfl) ?_
  refine lv_iload_n hx hb dX8_tableNumber_38 rfl (lv_at hl 2 rfl) ?_
  refine g_cI C0 G (g_runV C0 G (rest := []) (k_X6_get hfl k what h_t h_c hnn) h_t rfl hY_X6_get mm_X8_221 mi_X6_get ml_X6_get ⟨(Nat.le_of_ble_eq_true rfl), (Nat.le_of_ble_eq_true rfl)⟩ rfl hl.1 rfl (Nat.le_of_ble_eq_true rfl) dX8_tableNumber_39 ⟨(Nat.le_of_ble_eq_true rfl), (Nat.le_of_ble_eq_true rfl)⟩) (kx_no rfl) (fun r23 u22 H locs hp21 G => ?_)
  obtain ⟨er24, eu22⟩ := hp21
  rw [eu22] at G
  refine lv_topv (v := (tget cols rows n g k what)) er24 ?_
  exact g_iret C0 G hr dX8_tableNumber_42 (Nat.le_of_ble_eq_true rfl) (Nat.le_of_ble_eq_true rfl) (by exact ⟨rfl, rfl⟩)
