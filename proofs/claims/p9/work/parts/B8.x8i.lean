set_option maxRecDepth 100000 in
theorem c_X8_isReplayedN {l : Launch} (hfl : l.stackTraces = false) {D : va_G} {cy : Nat → ClassId} {f : Hf} {sz : Nat} {x : Nat} {lg : Nat} {sa : Nat} {ea : Nat} {A : Nat → Nat} {b : Nat} {b2 : Nat} {lg_o : Nat} {tx : Nat} {rz : Nat} {ro : Nat} {xea : Int32} {xra : Int32} {xkr : Int32} {no : Nat} {lo : Int32} {le : Int32} {lfi : Int32} {nS : Nat} {nC : Nat} {lun : Int32} {qs : Nat → Option Nat} {ge : Nat → Int32} (h_x : f x = some (.inr (10, [.ref (A (b + 0)), .ref (A (b2 + 0)), .ref lg, .ref lg_o, .ref tx, .ref rz, .ref ro, .int xea, .int xra, .int xkr]))) (h_lg : f lg = some (.inr (3, [.ref no, .ref sa, .ref ea, .int lo, .int le, .int lfi, .int (nI nS), .int (nI nC), .int lun]))) (h_sa : f sa = some (.inl (cy 4, 512, .inr (.inr (.inr (.inr qs)))))) (h_ea : f ea = some (.inl (cy 0, 512, .inl ge))) (v0 : (X1_hasMatch_x0 le) = 0) : hMet l yX8_isReplayed cX8_isReplayed 1 (some .boolean) { frames := 7, cells := 1, slots := 6, locals := 102 } D (hTy cy) f sz [.ref x] (hQi (fun r u => False) D f sz) (fun E u => E = "java/lang/IllegalStateException" ∧ u x = some (.inr (10, [.ref (A (b + 0)), .ref (A (b2 + 0)), .ref lg, .ref lg_o, .ref tx, .ref rz, .ref ro, .int xea, .int xra, .int 1])) ∧ hFrL f u [x]) := by
  refine h_enter (by decide) hfl (Nat.le_of_ble_eq_true rfl) ?_
  intro p9 e9 s9 m9 b9 t9 c9 hsz C0 hr hnm G ls hl
  have hx := C0.1.1
  have hb := C0.1.2.1
  have hl : lv_has ls 1 [(0, .ref x)] := hl
  refine lv_aload_n hx hb dX8_isReplayed_0 rfl (lv_at hl 0 rfl) ?_
  exact g_cV C0 G (g_runV C0 G (rest := []) (c_X8_demandMatchN hfl (A := A) (b := b) (b2 := b2) (xea := xea) (xra := xra) (xkr := xkr) (lo := lo) (le := le) (lfi := lfi) (nS := nS) (nC := nC) (lun := lun) (qs := qs) (ge := ge) h_x h_lg h_sa h_ea v0) h_x rfl hY_X8_demandMatch mm_X8_194 mi_X8_demandMatch ml_X8_demandMatch ⟨(Nat.le_of_ble_eq_true rfl), (Nat.le_of_ble_eq_true rfl)⟩ rfl hl.1 rfl (Nat.le_of_ble_eq_true rfl) dX8_isReplayed_1 ⟨(Nat.le_of_ble_eq_true rfl), (Nat.le_of_ble_eq_true rfl)⟩) (kx_out C0 (Nat.le_of_ble_eq_true rfl) (Nat.le_of_ble_eq_true rfl) (fun E9 u9 h9 => by
      obtain ⟨hE9, k11, fr12⟩ := h9
      exact ⟨hE9, k11, (fun a9 e9 h7 h8 => fr12 _ _ (fun q => h7 (by simp only [List.mem_cons, List.not_mem_nil, or_false] at q ⊢; first | exact q | (rcases q with q <;> simp [q]) | omega)) (h8))⟩)) (fun _ _ _ h9 _ => (h9).elim)
set_option maxRecDepth 100000 in
theorem c_X8_isReplayed0 {l : Launch} (hfl : l.stackTraces = false) {D : va_G} {cy : Nat → ClassId} {f : Hf} {sz : Nat} {x : Nat} {lg : Nat} {sa : Nat} {ea : Nat} {A : Nat → Nat} {b : Nat} {b2 : Nat} {lg_o : Nat} {tx : Nat} {rz : Nat} {ro : Nat} {xea : Int32} {xra : Int32} {xkr : Int32} {no : Nat} {lo : Int32} {le : Int32} {lfi : Int32} {nS : Nat} {nC : Nat} {lun : Int32} {qs : Nat → Option Nat} {ge : Nat → Int32} {q : Nat → Option Nat} {cm : Nat → Int32} {cs : Nat → Nat → Nat → Int32} {q2 : Nat → Option Nat} {cm2 : Nat → Int32} {cs2 : Nat → Nat → Nat → Int32} {sq : Nat → Nat} {SS : Nat → Nat → Int32} (h_x : f x = some (.inr (10, [.ref (A (b + 0)), .ref (A (b2 + 0)), .ref lg, .ref lg_o, .ref tx, .ref rz, .ref ro, .int xea, .int xra, .int xkr]))) (h_lg : f lg = some (.inr (3, [.ref no, .ref sa, .ref ea, .int lo, .int le, .int lfi, .int (nI nS), .int (nI nC), .int lun]))) (h_sa : f sa = some (.inl (cy 4, 512, .inr (.inr (.inr (.inr qs)))))) (h_ea : f ea = some (.inl (cy 0, 512, .inl ge))) (hAj : ∀ i j : Nat, i ≠ j → A i ≠ A j) (hM : MW A b cy q cm cs f) (hQ : HQ A b q) (n_sa : sa ∉ MA A b) (n_ea : ea ∉ MA A b) (hM2 : MW A b2 cy q2 cm2 cs2 f) (hQ2 : HQ A b2 q2) (n2_sa : sa ∉ MA A b2) (n2_ea : ea ∉ MA A b2) (v0 : ¬ (X1_hasMatch_x0 le) = 0) (hle : X1_hasMatch_x0 le = 1) (hnS : nS ≤ 512) (hsq : ∀ j : Nat, j < nS → qs j = some (sq j) ∧ f (sq j) = some (scell (SS j))) (hpp : ∀ j : Nat, j < nS → PP (fl SS (foM cm2 le lfi) (foS cs2 lo le) j).1 (fl SS (foM cm2 le lfi) (foS cs2 lo le) j).2) (h4 : cm 4 = 0) (h42 : (fl SS (foM cm2 le lfi) (foS cs2 lo le) nS).1 4 = 0) (hL1 : ∀ j : Nat, j ≤ 0 → LK cs j) (hL2 : ∀ j : Nat, j ≤ 0 → LK (fl SS (foM cm2 le lfi) (foS cs2 lo le) nS).2 j) (hdis : ∀ j ∈ MA A b2, j ∉ MA A b) : hMet l yX8_isReplayed cX8_isReplayed 1 (some .boolean) { frames := 6, cells := 0, slots := 0, locals := 138 } D (hTy cy) f sz [.ref x] (hQi (fun r u => (r = 0 ∨ r = 1) ∧ MW A b2 cy q2 (fl SS (foM cm2 le lfi) (foS cs2 lo le) nS).1 (fl SS (foM cm2 le lfi) (foS cs2 lo le) nS).2 u ∧ hFrL f u (MA A b2)) D f sz) hNo := by
  refine h_enter (by decide) hfl (Nat.le_of_ble_eq_true rfl) ?_
  intro p9 e9 s9 m9 b9 t9 c9 hsz C0 hr hnm G ls hl
  have hx := C0.1.1
  have hb := C0.1.2.1
  have hl : lv_has ls 1 [(0, .ref x)] := hl
  refine lv_aload_n hx hb dX8_isReplayed_0 rfl (lv_at hl 0 rfl) ?_
  refine g_cV C0 G (g_runV C0 G (rest := []) (c_X8_demandMatchO hfl (A := A) (b := b) (b2 := b2) (xea := xea) (xra := xra) (xkr := xkr) (lo := lo) (le := le) (lfi := lfi) (nS := nS) (nC := nC) (lun := lun) (qs := qs) (ge := ge) h_x h_lg h_sa h_ea v0) h_x rfl hY_X8_demandMatch mm_X8_194 mi_X8_demandMatch ml_X8_demandMatch ⟨(Nat.le_of_ble_eq_true rfl), (Nat.le_of_ble_eq_true rfl)⟩ rfl hl.1 rfl (Nat.le_of_ble_eq_true rfl) dX8_isReplayed_1 ⟨(Nat.le_of_ble_eq_true rfl), (Nat.le_of_ble_eq_true rfl)⟩) (kx_no rfl) (fun u12 H locs hp11 G => ?_)
  have eu12 := hp11
  rw [eu12] at G
  refine lv_aload_n hx hb dX8_isReplayed_4 rfl (lv_at hl 0 rfl) ?_
  refine g_get C0 G h_x rfl hiX8 1 (by decide) mf_X8_16 rfl dX8_isReplayed_5 ?_
  refine lv_aload_n hx hb dX8_isReplayed_8 rfl (lv_at hl 0 rfl) ?_
  refine g_get C0 G h_x rfl hiX8 2 (by decide) mf_X8_22 rfl dX8_isReplayed_9 ?_
  have k13 : f (A (b2 + 0)) = some (.inr (4, [.ref (A (b2 + 1)), .int (cm2 0), .int (cm2 1), .int (cm2 2), .int (cm2 3), .int (cm2 4)])) := hM2 0 (by omega)
  refine g_cV C0 G (g_runV C0 G (rest := []) (u_X2_follow hfl (nS := nS) (sq := sq) (SS := SS) h_lg h_sa hAj hM2 hQ2 hle hnS (MW_kind hM2 h_lg (by decide)) n2_sa hsq hpp) k13 rfl hY_X2_follow mm_X8_71 mi_X2_follow ml_X2_follow ⟨(Nat.le_of_ble_eq_true rfl), (Nat.le_of_ble_eq_true rfl)⟩ rfl hl.1 rfl (Nat.le_of_ble_eq_true rfl) dX8_isReplayed_12 ⟨(Nat.le_of_ble_eq_true rfl), (Nat.le_of_ble_eq_true rfl)⟩) (kx_no rfl) (fun u15 H locs hp14 G => ?_)
  obtain ⟨hM16, fr17⟩ := hp14
  refine lv_aload_n hx hb dX8_isReplayed_15 rfl (lv_at hl 0 rfl) ?_
  have k18 : u15 x = some (.inr (10, [.ref (A (b + 0)), .ref (A (b2 + 0)), .ref lg, .ref lg_o, .ref tx, .ref rz, .ref ro, .int xea, .int xra, .int xkr])) := fr17 _ _ (MW_kind hM2 h_x (by decide)) h_x
  refine g_get C0 G k18 rfl hiX8 1 (by decide) mf_X8_16 rfl dX8_isReplayed_16 ?_
  refine lv_aload_n hx hb dX8_isReplayed_19 rfl (lv_at hl 0 rfl) ?_
  refine g_get C0 G k18 rfl hiX8 0 (by decide) mf_X8_10 rfl dX8_isReplayed_20 ?_
  have hM19 := MW_frN hM fr17 hdis
  have k20 : u15 (A (b2 + 0)) = some (.inr (4, [.ref (A (b2 + 1)), .int ((fl SS (foM cm2 le lfi) (foS cs2 lo le) nS).1 0), .int ((fl SS (foM cm2 le lfi) (foS cs2 lo le) nS).1 1), .int ((fl SS (foM cm2 le lfi) (foS cs2 lo le) nS).1 2), .int ((fl SS (foM cm2 le lfi) (foS cs2 lo le) nS).1 3), .int ((fl SS (foM cm2 le lfi) (foS cs2 lo le) nS).1 4)])) := hM16 0 (by omega)
  refine g_cI C0 G (g_runV C0 G (rest := []) (c_X2_isLike0 hfl (A := A) (b := b) (cm := cm) (cs := cs) (b2 := b2) (cm2 := (fl SS (foM cm2 le lfi) (foS cs2 lo le) nS).1) (cs2 := (fl SS (foM cm2 le lfi) (foS cs2 lo le) nS).2)  hAj hM19 hQ hM16 hQ2 h4 h42 hL1 hL2) k20 rfl hY_X2_isLike mm_X8_325 mi_X2_isLike ml_X2_isLike ⟨(Nat.le_of_ble_eq_true rfl), (Nat.le_of_ble_eq_true rfl)⟩ rfl hl.1 rfl (Nat.le_of_ble_eq_true rfl) dX8_isReplayed_23 ⟨(Nat.le_of_ble_eq_true rfl), (Nat.le_of_ble_eq_true rfl)⟩) (kx_no rfl) (fun r23 u22 H locs hp21 G => ?_)
  obtain ⟨hb24, eu22⟩ := hp21
  rw [eu22] at G
  exact g_zret C0 G hr dX8_isReplayed_26 (hZb hb24) (Nat.le_of_ble_eq_true rfl) (Nat.le_of_ble_eq_true rfl) (by exact ⟨hb24, hM16, (fun a9 e9 h7 h8 => fr17 _ _ (fun q => h7 q) (h8))⟩)
set_option maxRecDepth 100000 in
theorem c_X8_isReplayed1 {l : Launch} (hfl : l.stackTraces = false) {D : va_G} {cy : Nat → ClassId} {f : Hf} {sz : Nat} {x : Nat} {lg : Nat} {sa : Nat} {ea : Nat} {A : Nat → Nat} {b : Nat} {b2 : Nat} {lg_o : Nat} {tx : Nat} {rz : Nat} {ro : Nat} {xea : Int32} {xra : Int32} {xkr : Int32} {no : Nat} {lo : Int32} {le : Int32} {lfi : Int32} {nS : Nat} {nC : Nat} {lun : Int32} {qs : Nat → Option Nat} {ge : Nat → Int32} {q : Nat → Option Nat} {cm : Nat → Int32} {cs : Nat → Nat → Nat → Int32} {q2 : Nat → Option Nat} {cm2 : Nat → Int32} {cs2 : Nat → Nat → Nat → Int32} {sq : Nat → Nat} {SS : Nat → Nat → Int32} (h_x : f x = some (.inr (10, [.ref (A (b + 0)), .ref (A (b2 + 0)), .ref lg, .ref lg_o, .ref tx, .ref rz, .ref ro, .int xea, .int xra, .int xkr]))) (h_lg : f lg = some (.inr (3, [.ref no, .ref sa, .ref ea, .int lo, .int le, .int lfi, .int (nI nS), .int (nI nC), .int lun]))) (h_sa : f sa = some (.inl (cy 4, 512, .inr (.inr (.inr (.inr qs)))))) (h_ea : f ea = some (.inl (cy 0, 512, .inl ge))) (hAj : ∀ i j : Nat, i ≠ j → A i ≠ A j) (hM : MW A b cy q cm cs f) (hQ : HQ A b q) (n_sa : sa ∉ MA A b) (n_ea : ea ∉ MA A b) (hM2 : MW A b2 cy q2 cm2 cs2 f) (hQ2 : HQ A b2 q2) (n2_sa : sa ∉ MA A b2) (n2_ea : ea ∉ MA A b2) (v0 : ¬ (X1_hasMatch_x0 le) = 0) (hle : X1_hasMatch_x0 le = 1) (hnS : nS ≤ 512) (hsq : ∀ j : Nat, j < nS → qs j = some (sq j) ∧ f (sq j) = some (scell (SS j))) (hpp : ∀ j : Nat, j < nS → PP (fl SS (foM cm2 le lfi) (foS cs2 lo le) j).1 (fl SS (foM cm2 le lfi) (foS cs2 lo le) j).2) (h4 : cm 4 = 1) (h42 : (fl SS (foM cm2 le lfi) (foS cs2 lo le) nS).1 4 = 1) (hL1 : ∀ j : Nat, j ≤ 1 → LK cs j) (hL2 : ∀ j : Nat, j ≤ 1 → LK (fl SS (foM cm2 le lfi) (foS cs2 lo le) nS).2 j) (hdis : ∀ j ∈ MA A b2, j ∉ MA A b) : hMet l yX8_isReplayed cX8_isReplayed 1 (some .boolean) { frames := 6, cells := 0, slots := 0, locals := 138 } D (hTy cy) f sz [.ref x] (hQi (fun r u => (r = 0 ∨ r = 1) ∧ MW A b2 cy q2 (fl SS (foM cm2 le lfi) (foS cs2 lo le) nS).1 (fl SS (foM cm2 le lfi) (foS cs2 lo le) nS).2 u ∧ hFrL f u (MA A b2)) D f sz) hNo := by
  refine h_enter (by decide) hfl (Nat.le_of_ble_eq_true rfl) ?_
  intro p9 e9 s9 m9 b9 t9 c9 hsz C0 hr hnm G ls hl
  have hx := C0.1.1
  have hb := C0.1.2.1
  have hl : lv_has ls 1 [(0, .ref x)] := hl
  refine lv_aload_n hx hb dX8_isReplayed_0 rfl (lv_at hl 0 rfl) ?_
  refine g_cV C0 G (g_runV C0 G (rest := []) (c_X8_demandMatchO hfl (A := A) (b := b) (b2 := b2) (xea := xea) (xra := xra) (xkr := xkr) (lo := lo) (le := le) (lfi := lfi) (nS := nS) (nC := nC) (lun := lun) (qs := qs) (ge := ge) h_x h_lg h_sa h_ea v0) h_x rfl hY_X8_demandMatch mm_X8_194 mi_X8_demandMatch ml_X8_demandMatch ⟨(Nat.le_of_ble_eq_true rfl), (Nat.le_of_ble_eq_true rfl)⟩ rfl hl.1 rfl (Nat.le_of_ble_eq_true rfl) dX8_isReplayed_1 ⟨(Nat.le_of_ble_eq_true rfl), (Nat.le_of_ble_eq_true rfl)⟩) (kx_no rfl) (fun u12 H locs hp11 G => ?_)
  have eu12 := hp11
  rw [eu12] at G
  refine lv_aload_n hx hb dX8_isReplayed_4 rfl (lv_at hl 0 rfl) ?_
  refine g_get C0 G h_x rfl hiX8 1 (by decide) mf_X8_16 rfl dX8_isReplayed_5 ?_
  refine lv_aload_n hx hb dX8_isReplayed_8 rfl (lv_at hl 0 rfl) ?_
  refine g_get C0 G h_x rfl hiX8 2 (by decide) mf_X8_22 rfl dX8_isReplayed_9 ?_
  have k13 : f (A (b2 + 0)) = some (.inr (4, [.ref (A (b2 + 1)), .int (cm2 0), .int (cm2 1), .int (cm2 2), .int (cm2 3), .int (cm2 4)])) := hM2 0 (by omega)
  refine g_cV C0 G (g_runV C0 G (rest := []) (u_X2_follow hfl (nS := nS) (sq := sq) (SS := SS) h_lg h_sa hAj hM2 hQ2 hle hnS (MW_kind hM2 h_lg (by decide)) n2_sa hsq hpp) k13 rfl hY_X2_follow mm_X8_71 mi_X2_follow ml_X2_follow ⟨(Nat.le_of_ble_eq_true rfl), (Nat.le_of_ble_eq_true rfl)⟩ rfl hl.1 rfl (Nat.le_of_ble_eq_true rfl) dX8_isReplayed_12 ⟨(Nat.le_of_ble_eq_true rfl), (Nat.le_of_ble_eq_true rfl)⟩) (kx_no rfl) (fun u15 H locs hp14 G => ?_)
  obtain ⟨hM16, fr17⟩ := hp14
  refine lv_aload_n hx hb dX8_isReplayed_15 rfl (lv_at hl 0 rfl) ?_
  have k18 : u15 x = some (.inr (10, [.ref (A (b + 0)), .ref (A (b2 + 0)), .ref lg, .ref lg_o, .ref tx, .ref rz, .ref ro, .int xea, .int xra, .int xkr])) := fr17 _ _ (MW_kind hM2 h_x (by decide)) h_x
  refine g_get C0 G k18 rfl hiX8 1 (by decide) mf_X8_16 rfl dX8_isReplayed_16 ?_
  refine lv_aload_n hx hb dX8_isReplayed_19 rfl (lv_at hl 0 rfl) ?_
  refine g_get C0 G k18 rfl hiX8 0 (by decide) mf_X8_10 rfl dX8_isReplayed_20 ?_
  have hM19 := MW_frN hM fr17 hdis
  have k20 : u15 (A (b2 + 0)) = some (.inr (4, [.ref (A (b2 + 1)), .int ((fl SS (foM cm2 le lfi) (foS cs2 lo le) nS).1 0), .int ((fl SS (foM cm2 le lfi) (foS cs2 lo le) nS).1 1), .int ((fl SS (foM cm2 le lfi) (foS cs2 lo le) nS).1 2), .int ((fl SS (foM cm2 le lfi) (foS cs2 lo le) nS).1 3), .int ((fl SS (foM cm2 le lfi) (foS cs2 lo le) nS).1 4)])) := hM16 0 (by omega)
  refine g_cI C0 G (g_runV C0 G (rest := []) (c_X2_isLike1 hfl (A := A) (b := b) (cm := cm) (cs := cs) (b2 := b2) (cm2 := (fl SS (foM cm2 le lfi) (foS cs2 lo le) nS).1) (cs2 := (fl SS (foM cm2 le lfi) (foS cs2 lo le) nS).2)  hAj hM19 hQ hM16 hQ2 h4 h42 hL1 hL2) k20 rfl hY_X2_isLike mm_X8_325 mi_X2_isLike ml_X2_isLike ⟨(Nat.le_of_ble_eq_true rfl), (Nat.le_of_ble_eq_true rfl)⟩ rfl hl.1 rfl (Nat.le_of_ble_eq_true rfl) dX8_isReplayed_23 ⟨(Nat.le_of_ble_eq_true rfl), (Nat.le_of_ble_eq_true rfl)⟩) (kx_no rfl) (fun r23 u22 H locs hp21 G => ?_)
  obtain ⟨hb24, eu22⟩ := hp21
  rw [eu22] at G
  exact g_zret C0 G hr dX8_isReplayed_26 (hZb hb24) (Nat.le_of_ble_eq_true rfl) (Nat.le_of_ble_eq_true rfl) (by exact ⟨hb24, hM16, (fun a9 e9 h7 h8 => fr17 _ _ (fun q => h7 q) (h8))⟩)
set_option maxRecDepth 100000 in
theorem c_X8_isReplayed2 {l : Launch} (hfl : l.stackTraces = false) {D : va_G} {cy : Nat → ClassId} {f : Hf} {sz : Nat} {x : Nat} {lg : Nat} {sa : Nat} {ea : Nat} {A : Nat → Nat} {b : Nat} {b2 : Nat} {lg_o : Nat} {tx : Nat} {rz : Nat} {ro : Nat} {xea : Int32} {xra : Int32} {xkr : Int32} {no : Nat} {lo : Int32} {le : Int32} {lfi : Int32} {nS : Nat} {nC : Nat} {lun : Int32} {qs : Nat → Option Nat} {ge : Nat → Int32} {q : Nat → Option Nat} {cm : Nat → Int32} {cs : Nat → Nat → Nat → Int32} {q2 : Nat → Option Nat} {cm2 : Nat → Int32} {cs2 : Nat → Nat → Nat → Int32} {sq : Nat → Nat} {SS : Nat → Nat → Int32} (h_x : f x = some (.inr (10, [.ref (A (b + 0)), .ref (A (b2 + 0)), .ref lg, .ref lg_o, .ref tx, .ref rz, .ref ro, .int xea, .int xra, .int xkr]))) (h_lg : f lg = some (.inr (3, [.ref no, .ref sa, .ref ea, .int lo, .int le, .int lfi, .int (nI nS), .int (nI nC), .int lun]))) (h_sa : f sa = some (.inl (cy 4, 512, .inr (.inr (.inr (.inr qs)))))) (h_ea : f ea = some (.inl (cy 0, 512, .inl ge))) (hAj : ∀ i j : Nat, i ≠ j → A i ≠ A j) (hM : MW A b cy q cm cs f) (hQ : HQ A b q) (n_sa : sa ∉ MA A b) (n_ea : ea ∉ MA A b) (hM2 : MW A b2 cy q2 cm2 cs2 f) (hQ2 : HQ A b2 q2) (n2_sa : sa ∉ MA A b2) (n2_ea : ea ∉ MA A b2) (v0 : ¬ (X1_hasMatch_x0 le) = 0) (hle : X1_hasMatch_x0 le = 1) (hnS : nS ≤ 512) (hsq : ∀ j : Nat, j < nS → qs j = some (sq j) ∧ f (sq j) = some (scell (SS j))) (hpp : ∀ j : Nat, j < nS → PP (fl SS (foM cm2 le lfi) (foS cs2 lo le) j).1 (fl SS (foM cm2 le lfi) (foS cs2 lo le) j).2) (h4 : cm 4 = 2) (h42 : (fl SS (foM cm2 le lfi) (foS cs2 lo le) nS).1 4 = 2) (hL1 : ∀ j : Nat, j ≤ 2 → LK cs j) (hL2 : ∀ j : Nat, j ≤ 2 → LK (fl SS (foM cm2 le lfi) (foS cs2 lo le) nS).2 j) (hdis : ∀ j ∈ MA A b2, j ∉ MA A b) : hMet l yX8_isReplayed cX8_isReplayed 1 (some .boolean) { frames := 6, cells := 0, slots := 0, locals := 138 } D (hTy cy) f sz [.ref x] (hQi (fun r u => (r = 0 ∨ r = 1) ∧ MW A b2 cy q2 (fl SS (foM cm2 le lfi) (foS cs2 lo le) nS).1 (fl SS (foM cm2 le lfi) (foS cs2 lo le) nS).2 u ∧ hFrL f u (MA A b2)) D f sz) hNo := by
  refine h_enter (by decide) hfl (Nat.le_of_ble_eq_true rfl) ?_
  intro p9 e9 s9 m9 b9 t9 c9 hsz C0 hr hnm G ls hl
  have hx := C0.1.1
  have hb := C0.1.2.1
  have hl : lv_has ls 1 [(0, .ref x)] := hl
  refine lv_aload_n hx hb dX8_isReplayed_0 rfl (lv_at hl 0 rfl) ?_
  refine g_cV C0 G (g_runV C0 G (rest := []) (c_X8_demandMatchO hfl (A := A) (b := b) (b2 := b2) (xea := xea) (xra := xra) (xkr := xkr) (lo := lo) (le := le) (lfi := lfi) (nS := nS) (nC := nC) (lun := lun) (qs := qs) (ge := ge) h_x h_lg h_sa h_ea v0) h_x rfl hY_X8_demandMatch mm_X8_194 mi_X8_demandMatch ml_X8_demandMatch ⟨(Nat.le_of_ble_eq_true rfl), (Nat.le_of_ble_eq_true rfl)⟩ rfl hl.1 rfl (Nat.le_of_ble_eq_true rfl) dX8_isReplayed_1 ⟨(Nat.le_of_ble_eq_true rfl), (Nat.le_of_ble_eq_true rfl)⟩) (kx_no rfl) (fun u12 H locs hp11 G => ?_)
  have eu12 := hp11
  rw [eu12] at G
  refine lv_aload_n hx hb dX8_isReplayed_4 rfl (lv_at hl 0 rfl) ?_
  refine g_get C0 G h_x rfl hiX8 1 (by decide) mf_X8_16 rfl dX8_isReplayed_5 ?_
  refine lv_aload_n hx hb dX8_isReplayed_8 rfl (lv_at hl 0 rfl) ?_
  refine g_get C0 G h_x rfl hiX8 2 (by decide) mf_X8_22 rfl dX8_isReplayed_9 ?_
  have k13 : f (A (b2 + 0)) = some (.inr (4, [.ref (A (b2 + 1)), .int (cm2 0), .int (cm2 1), .int (cm2 2), .int (cm2 3), .int (cm2 4)])) := hM2 0 (by omega)
  refine g_cV C0 G (g_runV C0 G (rest := []) (u_X2_follow hfl (nS := nS) (sq := sq) (SS := SS) h_lg h_sa hAj hM2 hQ2 hle hnS (MW_kind hM2 h_lg (by decide)) n2_sa hsq hpp) k13 rfl hY_X2_follow mm_X8_71 mi_X2_follow ml_X2_follow ⟨(Nat.le_of_ble_eq_true rfl), (Nat.le_of_ble_eq_true rfl)⟩ rfl hl.1 rfl (Nat.le_of_ble_eq_true rfl) dX8_isReplayed_12 ⟨(Nat.le_of_ble_eq_true rfl), (Nat.le_of_ble_eq_true rfl)⟩) (kx_no rfl) (fun u15 H locs hp14 G => ?_)
  obtain ⟨hM16, fr17⟩ := hp14
  refine lv_aload_n hx hb dX8_isReplayed_15 rfl (lv_at hl 0 rfl) ?_
  have k18 : u15 x = some (.inr (10, [.ref (A (b + 0)), .ref (A (b2 + 0)), .ref lg, .ref lg_o, .ref tx, .ref rz, .ref ro, .int xea, .int xra, .int xkr])) := fr17 _ _ (MW_kind hM2 h_x (by decide)) h_x
  refine g_get C0 G k18 rfl hiX8 1 (by decide) mf_X8_16 rfl dX8_isReplayed_16 ?_
  refine lv_aload_n hx hb dX8_isReplayed_19 rfl (lv_at hl 0 rfl) ?_
  refine g_get C0 G k18 rfl hiX8 0 (by decide) mf_X8_10 rfl dX8_isReplayed_20 ?_
  have hM19 := MW_frN hM fr17 hdis
  have k20 : u15 (A (b2 + 0)) = some (.inr (4, [.ref (A (b2 + 1)), .int ((fl SS (foM cm2 le lfi) (foS cs2 lo le) nS).1 0), .int ((fl SS (foM cm2 le lfi) (foS cs2 lo le) nS).1 1), .int ((fl SS (foM cm2 le lfi) (foS cs2 lo le) nS).1 2), .int ((fl SS (foM cm2 le lfi) (foS cs2 lo le) nS).1 3), .int ((fl SS (foM cm2 le lfi) (foS cs2 lo le) nS).1 4)])) := hM16 0 (by omega)
  refine g_cI C0 G (g_runV C0 G (rest := []) (c_X2_isLike2 hfl (A := A) (b := b) (cm := cm) (cs := cs) (b2 := b2) (cm2 := (fl SS (foM cm2 le lfi) (foS cs2 lo le) nS).1) (cs2 := (fl SS (foM cm2 le lfi) (foS cs2 lo le) nS).2)  hAj hM19 hQ hM16 hQ2 h4 h42 hL1 hL2) k20 rfl hY_X2_isLike mm_X8_325 mi_X2_isLike ml_X2_isLike ⟨(Nat.le_of_ble_eq_true rfl), (Nat.le_of_ble_eq_true rfl)⟩ rfl hl.1 rfl (Nat.le_of_ble_eq_true rfl) dX8_isReplayed_23 ⟨(Nat.le_of_ble_eq_true rfl), (Nat.le_of_ble_eq_true rfl)⟩) (kx_no rfl) (fun r23 u22 H locs hp21 G => ?_)
  obtain ⟨hb24, eu22⟩ := hp21
  rw [eu22] at G
  exact g_zret C0 G hr dX8_isReplayed_26 (hZb hb24) (Nat.le_of_ble_eq_true rfl) (Nat.le_of_ble_eq_true rfl) (by exact ⟨hb24, hM16, (fun a9 e9 h7 h8 => fr17 _ _ (fun q => h7 q) (h8))⟩)
set_option maxRecDepth 100000 in
theorem c_X8_isReplayed3 {l : Launch} (hfl : l.stackTraces = false) {D : va_G} {cy : Nat → ClassId} {f : Hf} {sz : Nat} {x : Nat} {lg : Nat} {sa : Nat} {ea : Nat} {A : Nat → Nat} {b : Nat} {b2 : Nat} {lg_o : Nat} {tx : Nat} {rz : Nat} {ro : Nat} {xea : Int32} {xra : Int32} {xkr : Int32} {no : Nat} {lo : Int32} {le : Int32} {lfi : Int32} {nS : Nat} {nC : Nat} {lun : Int32} {qs : Nat → Option Nat} {ge : Nat → Int32} {q : Nat → Option Nat} {cm : Nat → Int32} {cs : Nat → Nat → Nat → Int32} {q2 : Nat → Option Nat} {cm2 : Nat → Int32} {cs2 : Nat → Nat → Nat → Int32} {sq : Nat → Nat} {SS : Nat → Nat → Int32} (h_x : f x = some (.inr (10, [.ref (A (b + 0)), .ref (A (b2 + 0)), .ref lg, .ref lg_o, .ref tx, .ref rz, .ref ro, .int xea, .int xra, .int xkr]))) (h_lg : f lg = some (.inr (3, [.ref no, .ref sa, .ref ea, .int lo, .int le, .int lfi, .int (nI nS), .int (nI nC), .int lun]))) (h_sa : f sa = some (.inl (cy 4, 512, .inr (.inr (.inr (.inr qs)))))) (h_ea : f ea = some (.inl (cy 0, 512, .inl ge))) (hAj : ∀ i j : Nat, i ≠ j → A i ≠ A j) (hM : MW A b cy q cm cs f) (hQ : HQ A b q) (n_sa : sa ∉ MA A b) (n_ea : ea ∉ MA A b) (hM2 : MW A b2 cy q2 cm2 cs2 f) (hQ2 : HQ A b2 q2) (n2_sa : sa ∉ MA A b2) (n2_ea : ea ∉ MA A b2) (v0 : ¬ (X1_hasMatch_x0 le) = 0) (hle : X1_hasMatch_x0 le = 1) (hnS : nS ≤ 512) (hsq : ∀ j : Nat, j < nS → qs j = some (sq j) ∧ f (sq j) = some (scell (SS j))) (hpp : ∀ j : Nat, j < nS → PP (fl SS (foM cm2 le lfi) (foS cs2 lo le) j).1 (fl SS (foM cm2 le lfi) (foS cs2 lo le) j).2) (h4 : cm 4 = 3) (h42 : (fl SS (foM cm2 le lfi) (foS cs2 lo le) nS).1 4 = 3) (hL1 : ∀ j : Nat, j ≤ 3 → LK cs j) (hL2 : ∀ j : Nat, j ≤ 3 → LK (fl SS (foM cm2 le lfi) (foS cs2 lo le) nS).2 j) (hdis : ∀ j ∈ MA A b2, j ∉ MA A b) : hMet l yX8_isReplayed cX8_isReplayed 1 (some .boolean) { frames := 6, cells := 0, slots := 0, locals := 138 } D (hTy cy) f sz [.ref x] (hQi (fun r u => (r = 0 ∨ r = 1) ∧ MW A b2 cy q2 (fl SS (foM cm2 le lfi) (foS cs2 lo le) nS).1 (fl SS (foM cm2 le lfi) (foS cs2 lo le) nS).2 u ∧ hFrL f u (MA A b2)) D f sz) hNo := by
  refine h_enter (by decide) hfl (Nat.le_of_ble_eq_true rfl) ?_
  intro p9 e9 s9 m9 b9 t9 c9 hsz C0 hr hnm G ls hl
  have hx := C0.1.1
  have hb := C0.1.2.1
  have hl : lv_has ls 1 [(0, .ref x)] := hl
  refine lv_aload_n hx hb dX8_isReplayed_0 rfl (lv_at hl 0 rfl) ?_
  refine g_cV C0 G (g_runV C0 G (rest := []) (c_X8_demandMatchO hfl (A := A) (b := b) (b2 := b2) (xea := xea) (xra := xra) (xkr := xkr) (lo := lo) (le := le) (lfi := lfi) (nS := nS) (nC := nC) (lun := lun) (qs := qs) (ge := ge) h_x h_lg h_sa h_ea v0) h_x rfl hY_X8_demandMatch mm_X8_194 mi_X8_demandMatch ml_X8_demandMatch ⟨(Nat.le_of_ble_eq_true rfl), (Nat.le_of_ble_eq_true rfl)⟩ rfl hl.1 rfl (Nat.le_of_ble_eq_true rfl) dX8_isReplayed_1 ⟨(Nat.le_of_ble_eq_true rfl), (Nat.le_of_ble_eq_true rfl)⟩) (kx_no rfl) (fun u12 H locs hp11 G => ?_)
  have eu12 := hp11
  rw [eu12] at G
  refine lv_aload_n hx hb dX8_isReplayed_4 rfl (lv_at hl 0 rfl) ?_
  refine g_get C0 G h_x rfl hiX8 1 (by decide) mf_X8_16 rfl dX8_isReplayed_5 ?_
  refine lv_aload_n hx hb dX8_isReplayed_8 rfl (lv_at hl 0 rfl) ?_
  refine g_get C0 G h_x rfl hiX8 2 (by decide) mf_X8_22 rfl dX8_isReplayed_9 ?_
  have k13 : f (A (b2 + 0)) = some (.inr (4, [.ref (A (b2 + 1)), .int (cm2 0), .int (cm2 1), .int (cm2 2), .int (cm2 3), .int (cm2 4)])) := hM2 0 (by omega)
  refine g_cV C0 G (g_runV C0 G (rest := []) (u_X2_follow hfl (nS := nS) (sq := sq) (SS := SS) h_lg h_sa hAj hM2 hQ2 hle hnS (MW_kind hM2 h_lg (by decide)) n2_sa hsq hpp) k13 rfl hY_X2_follow mm_X8_71 mi_X2_follow ml_X2_follow ⟨(Nat.le_of_ble_eq_true rfl), (Nat.le_of_ble_eq_true rfl)⟩ rfl hl.1 rfl (Nat.le_of_ble_eq_true rfl) dX8_isReplayed_12 ⟨(Nat.le_of_ble_eq_true rfl), (Nat.le_of_ble_eq_true rfl)⟩) (kx_no rfl) (fun u15 H locs hp14 G => ?_)
  obtain ⟨hM16, fr17⟩ := hp14
  refine lv_aload_n hx hb dX8_isReplayed_15 rfl (lv_at hl 0 rfl) ?_
  have k18 : u15 x = some (.inr (10, [.ref (A (b + 0)), .ref (A (b2 + 0)), .ref lg, .ref lg_o, .ref tx, .ref rz, .ref ro, .int xea, .int xra, .int xkr])) := fr17 _ _ (MW_kind hM2 h_x (by decide)) h_x
  refine g_get C0 G k18 rfl hiX8 1 (by decide) mf_X8_16 rfl dX8_isReplayed_16 ?_
  refine lv_aload_n hx hb dX8_isReplayed_19 rfl (lv_at hl 0 rfl) ?_
  refine g_get C0 G k18 rfl hiX8 0 (by decide) mf_X8_10 rfl dX8_isReplayed_20 ?_
  have hM19 := MW_frN hM fr17 hdis
  have k20 : u15 (A (b2 + 0)) = some (.inr (4, [.ref (A (b2 + 1)), .int ((fl SS (foM cm2 le lfi) (foS cs2 lo le) nS).1 0), .int ((fl SS (foM cm2 le lfi) (foS cs2 lo le) nS).1 1), .int ((fl SS (foM cm2 le lfi) (foS cs2 lo le) nS).1 2), .int ((fl SS (foM cm2 le lfi) (foS cs2 lo le) nS).1 3), .int ((fl SS (foM cm2 le lfi) (foS cs2 lo le) nS).1 4)])) := hM16 0 (by omega)
  refine g_cI C0 G (g_runV C0 G (rest := []) (c_X2_isLike3 hfl (A := A) (b := b) (cm := cm) (cs := cs) (b2 := b2) (cm2 := (fl SS (foM cm2 le lfi) (foS cs2 lo le) nS).1) (cs2 := (fl SS (foM cm2 le lfi) (foS cs2 lo le) nS).2)  hAj hM19 hQ hM16 hQ2 h4 h42 hL1 hL2) k20 rfl hY_X2_isLike mm_X8_325 mi_X2_isLike ml_X2_isLike ⟨(Nat.le_of_ble_eq_true rfl), (Nat.le_of_ble_eq_true rfl)⟩ rfl hl.1 rfl (Nat.le_of_ble_eq_true rfl) dX8_isReplayed_23 ⟨(Nat.le_of_ble_eq_true rfl), (Nat.le_of_ble_eq_true rfl)⟩) (kx_no rfl) (fun r23 u22 H locs hp21 G => ?_)
  obtain ⟨hb24, eu22⟩ := hp21
  rw [eu22] at G
  exact g_zret C0 G hr dX8_isReplayed_26 (hZb hb24) (Nat.le_of_ble_eq_true rfl) (Nat.le_of_ble_eq_true rfl) (by exact ⟨hb24, hM16, (fun a9 e9 h7 h8 => fr17 _ _ (fun q => h7 q) (h8))⟩)
