theorem u_X2_follow {l : Launch} (hfl : l.stackTraces = false) {D : va_G} {cy : Nat → ClassId} {f : Hf} {sz : Nat} {A : Nat → Nat} {b : Nat} {q : Nat → Option Nat} {cm : Nat → Int32} {cs : Nat → Nat → Nat → Int32} {lg : Nat} {no : Nat} {sa : Nat} {ea : Nat} {lo : Int32} {le : Int32} {lfi : Int32} {lcm : Int32} {lun : Int32} {nS : Nat} {qs : Nat → Option Nat} {sq : Nat → Nat} {SS : Nat → Nat → Int32} (h_lg : f lg = some (.inr (3, [.ref no, .ref sa, .ref ea, .int lo, .int le, .int lfi, .int (nI nS), .int lcm, .int lun]))) (h_sa : f sa = some (.inl (cy 4, 512, .inr (.inr (.inr (.inr qs)))))) (hAj : ∀ i j : Nat, i ≠ j → A i ≠ A j) (hM : MW A b cy q cm cs f) (hQ : HQ A b q) (hle : X1_hasMatch_x0 le = 1) (hnS : nS ≤ 512) (hlg : lg ∉ MA A b) (hsa : sa ∉ MA A b) (hsq : ∀ j, j < nS → qs j = some (sq j) ∧ f (sq j) = some (scell (SS j))) (hpp : ∀ j, j < nS → PP (fl SS (foM cm le lfi) (foS cs lo le) j).1 (fl SS (foM cm le lfi) (foS cs lo le) j).2) : hMet l yX2_follow cX2_follow 3 none { frames := 5, cells := 0, slots := 0, locals := 116 } D (hTy cy) f sz [.ref (A (b + 0)), .ref lg] (hQv (fun u => MW A b cy q (fl SS (foM cm le lfi) (foS cs lo le) nS).1 (fl SS (foM cm le lfi) (foS cs lo le) nS).2 u ∧ hFrL f u (MA A b)) D f sz) hNo := 
  c_X2_follow hfl (hM 0 (by omega)) (hM 1 (by omega)) (hM 2 (by omega)) (hM 3 (by omega)) (hM 4 (by omega)) (hM 5 (by omega)) (hM 6 (by omega)) (hM 7 (by omega)) (hM 8 (by omega)) (hM 9 (by omega)) (hM 10 (by omega)) (hM 11 (by omega)) (hM 12 (by omega)) (hM 13 (by omega)) (hM 14 (by omega)) h_lg h_sa hAj hQ.1 hQ.2.1 hQ.2.2.1 hQ.2.2.2 hM hQ hle hnS hlg hsa hsq hpp
theorem sq_fr {f u : Hf} {L : List Nat} (hu : hFrL f u L) {qs : Nat → Option Nat} {sq : Nat → Nat} {SS : Nat → Nat → Int32} {n : Nat} (hL : ∀ y ∈ L, ∀ Z : Nat → Int32, f y ≠ some (scell Z)) (h : ∀ j, j < n → qs j = some (sq j) ∧ f (sq j) = some (scell (SS j))) : ∀ j, j < n → qs j = some (sq j) ∧ u (sq j) = some (scell (SS j)) := fun j hj => ⟨(h j hj).1, hu _ _ (fun hm => hL _ hm _ (h j hj).2) (h j hj).2⟩
theorem sq_cpq {f : Hf} {qs q2 : Nat → Option Nat} {sq : Nat → Nat} {SS : Nat → Nat → Int32} {n : Nat} (h : ∀ j, j < n → qs j = some (sq j) ∧ f (sq j) = some (scell (SS j))) : ∀ j, j < n → (cpq qs q2 n) j = some (sq j) ∧ f (sq j) = some (scell (SS j)) := fun j hj => ⟨by unfold cpq; rw [if_pos hj]; exact (h j hj).1, (h j hj).2⟩
theorem sq_le {f : Hf} {qs : Nat → Option Nat} {sq : Nat → Nat} {SS : Nat → Nat → Int32} {n m : Nat} (hm : m ≤ n) (h : ∀ j, j < n → qs j = some (sq j) ∧ f (sq j) = some (scell (SS j))) : ∀ j, j < m → qs j = some (sq j) ∧ f (sq j) = some (scell (SS j)) := fun j hj => h j (Nat.lt_of_lt_of_le hj hm)
set_option maxRecDepth 100000 in
theorem c_X2_followN {l : Launch} (hfl : l.stackTraces = false) {D : va_G} {cy : Nat → ClassId} {f : Hf} {sz : Nat} {A : Nat → Nat} {b : Nat} {cm : Nat → Int32} {lg : Nat} {no : Nat} {sa : Nat} {ea : Nat} {lo : Int32} {le : Int32} {lfi : Int32} {lsc : Int32} {lcm : Int32} {lun : Int32} (h_m0 : f (A (b + 0)) = some (.inr (4, [.ref (A (b + 1)), .int (cm 0), .int (cm 1), .int (cm 2), .int (cm 3), .int (cm 4)]))) (h_lg : f lg = some (.inr (3, [.ref no, .ref sa, .ref ea, .int lo, .int le, .int lfi, .int lsc, .int lcm, .int lun]))) (hle : X1_hasMatch_x0 le = 0) : hMet l yX2_follow cX2_follow 3 none { frames := 1, cells := 0, slots := 0, locals := 20 } D (hTy cy) f sz [.ref (A (b + 0)), .ref lg] (hQv (fun u => u (A (b + 0)) = some (.inr (4, [.ref (A (b + 1)), .int 0, .int (cm 1), .int (cm 2), .int (cm 3), .int (cm 4)])) ∧ hFrL f u [(A (b + 0))]) D f sz) hNo := by
  refine h_enter (by decide) hfl (Nat.le_of_ble_eq_true rfl) ?_
  intro p9 e9 s9 m9 b9 t9 c9 hsz C0 hr hnm G ls hl
  have hx := C0.1.1
  have hb := C0.1.2.1
  have hl : lv_has ls 3 [(0, .ref (A (b + 0))), (1, .ref lg)] := hl
  refine lv_aload_n hx hb dX2_follow_0 rfl (lv_at hl 0 rfl) ?_
  refine lv_aload_n hx hb dX2_follow_1 rfl (lv_at hl 1 rfl) ?_
  refine g_cI C0 G (g_runV C0 G (rest := [.ref (A (b + 0))]) (c_X1_hasMatch hfl (lo := lo) (le := le) (lfi := lfi) (lsc := lsc) (lcm := lcm) (lun := lun) h_lg) h_lg rfl hY_X1_hasMatch mm_X2_35 mi_X1_hasMatch ml_X1_hasMatch ⟨(Nat.le_of_ble_eq_true rfl), (Nat.le_of_ble_eq_true rfl)⟩ rfl hl.1 rfl (Nat.le_of_ble_eq_true rfl) dX2_follow_2 ⟨(Nat.le_of_ble_eq_true rfl), (Nat.le_of_ble_eq_true rfl)⟩) (kx_no rfl) (fun r13 u12 H locs hp11 G => ?_)
  obtain ⟨er14, eu12⟩ := hp11
  rw [eu12] at G
  refine lv_topv (v := (X1_hasMatch_x0 le)) er14 ?_
  refine lv_topv (v := 0) (hle) ?_
  refine g_put C0 G h_m0 rfl hiX2 tyX2 tyX2_ok nmX2 1 (by decide) mf_X2_17 rfl rfl rfl rfl (Nat.le_of_ble_eq_true rfl) dX2_follow_5 (fun H locs f15 hf15 G => ?_)
  have k16 : f15 (A (b + 0)) = some (.inr (4, [.ref (A (b + 1)), .int 0, .int (cm 1), .int (cm 2), .int (cm 3), .int (cm 4)])) := hus hf15
  refine lv_aload_n hx hb dX2_follow_8 rfl (lv_at hl 0 rfl) ?_
  refine g_get C0 G k16 rfl hiX2 1 (by decide) mf_X2_17 rfl dX2_follow_9 ?_
  refine lv_if_ne (tgt := 16) hx hb dX2_follow_12 (by decide) (fun c17 => absurd (by decide) c17) (fun _ => ?_)
  exact g_vret C0 G hr dX2_follow_15 (Nat.le_of_ble_eq_true rfl) (Nat.le_of_ble_eq_true rfl) (by exact ⟨k16, (fun a9 e9 h7 h8 => hup hf15 (fun q => h7 (by rw [q]; simp)) (h8))⟩)
theorem u_X2_followN {l : Launch} (hfl : l.stackTraces = false) {A : Nat → Nat} {b : Nat} {cy : Nat → ClassId} {q : Nat → Option Nat} {cm : Nat → Int32} {cs : Nat → Nat → Nat → Int32} {D : va_G} {sz : Nat} {f : Hf} {lg no sa ea : Nat} {lo le lfi lsc lcm lun : Int32} (h_lg : f lg = some (.inr (3, [.ref no, .ref sa, .ref ea, .int lo, .int le, .int lfi, .int lsc, .int lcm, .int lun]))) (hM : MW A b cy q cm cs f) (hAj : ∀ i j : Nat, i ≠ j → A i ≠ A j) (hle : X1_hasMatch_x0 le = 0) (h0 : cm 0 = 0) : hMet l yX2_follow cX2_follow 3 none { frames := 1, cells := 0, slots := 0, locals := 20 } D (hTy cy) f sz [.ref (A (b + 0)), .ref lg] (hQv (fun u => MW A b cy q cm cs u ∧ hFrL f u (MA A b)) D f sz) hNo :=
  h_postV (c_X2_followN hfl (hM 0 (by omega)) h_lg hle) (fun u hp => by
    obtain ⟨hk, hf⟩ := hp
    have hF : hFrL f u (MA A b) := hFrL_mono hf (fun x hx => by simp only [List.mem_cons, List.not_mem_nil, or_false] at hx; rw [hx]; exact MA_in (by omega))
    refine ⟨fun k hk2 => ?_, hF⟩
    rcases Nat.eq_zero_or_pos k with rfl | hp9
    · show u (A (b + 0)) = some (.inr (4, [.ref (A (b + 1)), .int (cm 0), .int (cm 1), .int (cm 2), .int (cm 3), .int (cm 4)]))
      rw [h0]; exact hk
    · exact hf _ _ (fun hm => by simp only [List.mem_cons, List.not_mem_nil, or_false] at hm; exact hAj _ _ (by omega) hm) (hM k hk2))
set_option maxRecDepth 100000 in
theorem c_X8_storeOversB {l : Launch} (hfl : l.stackTraces = false) {D : va_G} {cy : Nat → ClassId} {f : Hf} {sz : Nat} {x : Nat} {A : Nat → Nat} {b : Nat} {b2 : Nat} {lg : Nat} {lg_o : Nat} {tx : Nat} {rz : Nat} {ro : Nat} {xea : Int32} {xra : Int32} {xkr : Int32} (row : Int32) (inn : Int32) (ex : Int32) (h_x : f x = some (.inr (10, [.ref (A (b + 0)), .ref (A (b2 + 0)), .ref lg, .ref lg_o, .ref tx, .ref rz, .ref ro, .int xea, .int xra, .int xkr]))) (v0 : (X8_isWithin_x1 row 0 1) = 0) : hMet l yX8_storeOvers cX8_storeOvers 4 (some .int) { frames := 7, cells := 1, slots := 6, locals := 102 } D (hTy cy) f sz [.ref x, .int row, .int inn, .int ex] (hQi (fun r u => False) D f sz) (fun E u => E = "java/lang/IndexOutOfBoundsException" ∧ u = f) := by
  refine h_enter (by decide) hfl (Nat.le_of_ble_eq_true rfl) ?_
  intro p9 e9 s9 m9 b9 t9 c9 hsz C0 hr hnm G ls hl
  have hx := C0.1.1
  have hb := C0.1.2.1
  have hl : lv_has ls 4 [(0, .ref x), (1, .int row), (2, .int inn), (3, .int ex)] := hl
  refine lv_iload_n hx hb dX8_storeOvers_0 rfl (lv_at hl 1 rfl) ?_
  exact g_cV C0 G (g_runS C0 G (rest := []) (c_X8_demandRowN hfl row  v0) hY_X8_demandRow mm_X8_275 ms_X8_demandRow ⟨(Nat.le_of_ble_eq_true rfl), (Nat.le_of_ble_eq_true rfl)⟩ rfl hl.1 rfl (Nat.le_of_ble_eq_true rfl) dX8_storeOvers_1 ⟨(Nat.le_of_ble_eq_true rfl), (Nat.le_of_ble_eq_true rfl)⟩) (kx_out C0 (Nat.le_of_ble_eq_true rfl) (Nat.le_of_ble_eq_true rfl) (fun E9 u9 h9 => by
      obtain ⟨hE9, eu12⟩ := h9
      have fr11 : hFrL f u9 [] := fun a9 e9 h7 h8 => by rw [eu12]; exact h8
      exact ⟨hE9, eu12⟩)) (fun _ _ _ h9 _ => (h9).elim)
set_option maxRecDepth 100000 in
theorem c_X8_storeOversN {l : Launch} (hfl : l.stackTraces = false) {D : va_G} {cy : Nat → ClassId} {f : Hf} {sz : Nat} {x : Nat} {A : Nat → Nat} {b : Nat} {b2 : Nat} {lg : Nat} {lg_o : Nat} {tx : Nat} {rz : Nat} {ro : Nat} {xea : Int32} {xra : Int32} {xkr : Int32} {q : Nat → Option Nat} {cm : Nat → Int32} {cs : Nat → Nat → Nat → Int32} (row : Int32) (inn : Int32) (ex : Int32) (h_x : f x = some (.inr (10, [.ref (A (b + 0)), .ref (A (b2 + 0)), .ref lg, .ref lg_o, .ref tx, .ref rz, .ref ro, .int xea, .int xra, .int xkr]))) (hAj : ∀ i j : Nat, i ≠ j → A i ≠ A j) (hM : MW A b cy q cm cs f) (hQ : HQ A b q) (v0 : ¬ (X8_isWithin_x1 row 0 1) = 0) (v1 : (X2_hasBegun_x2 (cm 0) (cm 4) inn) = 0) : hMet l yX8_storeOvers cX8_storeOvers 4 (some .int) { frames := 7, cells := 1, slots := 6, locals := 103 } D (hTy cy) f sz [.ref x, .int row, .int inn, .int ex] (hQi (fun r u => False) D f sz) (fun E u => E = "java/lang/IndexOutOfBoundsException" ∧ MW A b cy q cm cs u ∧ hFrL f u []) := by
  refine h_enter (by decide) hfl (Nat.le_of_ble_eq_true rfl) ?_
  intro p9 e9 s9 m9 b9 t9 c9 hsz C0 hr hnm G ls hl
  have hx := C0.1.1
  have hb := C0.1.2.1
  have hl : lv_has ls 4 [(0, .ref x), (1, .int row), (2, .int inn), (3, .int ex)] := hl
  refine lv_iload_n hx hb dX8_storeOvers_0 rfl (lv_at hl 1 rfl) ?_
  refine g_cV C0 G (g_runS C0 G (rest := []) (c_X8_demandRowO hfl row  v0) hY_X8_demandRow mm_X8_275 ms_X8_demandRow ⟨(Nat.le_of_ble_eq_true rfl), (Nat.le_of_ble_eq_true rfl)⟩ rfl hl.1 rfl (Nat.le_of_ble_eq_true rfl) dX8_storeOvers_1 ⟨(Nat.le_of_ble_eq_true rfl), (Nat.le_of_ble_eq_true rfl)⟩) (kx_no rfl) (fun u12 H locs hp11 G => ?_)
  have eu12 := hp11
  rw [eu12] at G
  refine lv_aload_n hx hb dX8_storeOvers_4 rfl (lv_at hl 0 rfl) ?_
  refine lv_iload_n hx hb dX8_storeOvers_5 rfl (lv_at hl 2 rfl) ?_
  exact g_cV C0 G (g_runV C0 G (rest := []) (c_X8_demandInningsN hfl (A := A) (b := b) (b2 := b2) (xea := xea) (xra := xra) (xkr := xkr) (cm := cm) (cs := cs) inn h_x hAj hM hQ v1) h_x rfl hY_X8_demandInnings mm_X8_200 mi_X8_demandInnings ml_X8_demandInnings ⟨(Nat.le_of_ble_eq_true rfl), (Nat.le_of_ble_eq_true rfl)⟩ rfl hl.1 rfl (Nat.le_of_ble_eq_true rfl) dX8_storeOvers_6 ⟨(Nat.le_of_ble_eq_true rfl), (Nat.le_of_ble_eq_true rfl)⟩) (kx_out C0 (Nat.le_of_ble_eq_true rfl) (Nat.le_of_ble_eq_true rfl) (fun E9 u9 h9 => by
      obtain ⟨hE9, hM13, fr14⟩ := h9
      exact ⟨hE9, hM13, (fun a9 e9 h7 h8 => fr14 _ _ (by simp) (h8))⟩)) (fun _ _ _ h9 _ => (h9).elim)
def X8_storeOvers00_g0 (gz : Nat → UInt32) (cs : Nat → Nat → Nat → Int32) (bn : Nat) (ex : Int32) : Nat → UInt32 := (X4_store_g2 gz (cs 0 0) (cs 0 5) (cs 0 6 2) ex bn)
set_option maxRecDepth 100000 in
theorem c_X8_storeOvers00 {l : Launch} (hfl : l.stackTraces = false) {D : va_G} {cy : Nat → ClassId} {f : Hf} {sz : Nat} {x : Nat} {rz : Nat} {fz : Nat} {A : Nat → Nat} {b : Nat} {b2 : Nat} {lg : Nat} {lg_o : Nat} {tx : Nat} {ro : Nat} {xea : Int32} {xra : Int32} {xkr : Int32} {zst : Int32} {zex : Int32} {zln : Int32} {gz : Nat → UInt32} {q : Nat → Option Nat} {cm : Nat → Int32} {cs : Nat → Nat → Nat → Int32} {bn : Nat} (ex : Int32) (h_x : f x = some (.inr (10, [.ref (A (b + 0)), .ref (A (b2 + 0)), .ref lg, .ref lg_o, .ref tx, .ref rz, .ref ro, .int xea, .int xra, .int xkr]))) (h_rz : f rz = some (.inr (6, [.ref fz, .int zst, .int zex, .int zln]))) (h_fz : f fz = some (.inl (cy 2, 20, .inr (.inr (.inl gz))))) (hAj : ∀ i j : Nat, i ≠ j → A i ≠ A j) (hM : MW A b cy q cm cs f) (hQ : HQ A b q) (n_fz : fz ∉ MA A b) (v0 : ¬ (X8_isWithin_x1 0 0 1) = 0) (v1 : ¬ (X2_hasBegun_x2 (cm 0) (cm 4) 0) = 0) (hr0 : cs 0 7 0 = 1) (hbn : X3_begun_x0 (cs 0 6 2) (cs 0 6 7) = nI bn) (hbn2 : bn ≤ 20) (hb_ex : ex = 0 ∨ ex = 1) : hMet l yX8_storeOvers cX8_storeOvers 4 (some .int) { frames := 3, cells := 0, slots := 0, locals := 69 } D (hTy cy) f sz [.ref x, .int 0, .int 0, .int ex] (hQi (fun r u => r = (X4_store_r1 bn) ∧ u rz = some (.inr (6, [.ref fz, .int 1, .int ex, .int (nI bn)])) ∧ u fz = some (.inl (cy 2, 20, .inr (.inr (.inl (X8_storeOvers00_g0 gz cs bn ex))))) ∧ MW A b cy q cm cs u ∧ hFrL f u [rz, fz]) D f sz) hNo := by
  refine h_enter (by decide) hfl (Nat.le_of_ble_eq_true rfl) ?_
  intro p9 e9 s9 m9 b9 t9 c9 hsz C0 hr hnm G ls hl
  have hx := C0.1.1
  have hb := C0.1.2.1
  have hl : lv_has ls 4 [(0, .ref x), (1, .int 0), (2, .int 0), (3, .int ex)] := hl
  refine lv_iload_n hx hb dX8_storeOvers_0 rfl (lv_at hl 1 rfl) ?_
  refine g_cV C0 G (g_runS C0 G (rest := []) (c_X8_demandRowO hfl 0  v0) hY_X8_demandRow mm_X8_275 ms_X8_demandRow ⟨(Nat.le_of_ble_eq_true rfl), (Nat.le_of_ble_eq_true rfl)⟩ rfl hl.1 rfl (Nat.le_of_ble_eq_true rfl) dX8_storeOvers_1 ⟨(Nat.le_of_ble_eq_true rfl), (Nat.le_of_ble_eq_true rfl)⟩) (kx_no rfl) (fun u12 H locs hp11 G => ?_)
  have eu12 := hp11
  rw [eu12] at G
  refine lv_aload_n hx hb dX8_storeOvers_4 rfl (lv_at hl 0 rfl) ?_
  refine lv_iload_n hx hb dX8_storeOvers_5 rfl (lv_at hl 2 rfl) ?_
  refine g_cV C0 G (g_runV C0 G (rest := []) (c_X8_demandInningsO hfl (A := A) (b := b) (b2 := b2) (xea := xea) (xra := xra) (xkr := xkr) (cm := cm) (cs := cs) 0 h_x hAj hM hQ v1) h_x rfl hY_X8_demandInnings mm_X8_200 mi_X8_demandInnings ml_X8_demandInnings ⟨(Nat.le_of_ble_eq_true rfl), (Nat.le_of_ble_eq_true rfl)⟩ rfl hl.1 rfl (Nat.le_of_ble_eq_true rfl) dX8_storeOvers_6 ⟨(Nat.le_of_ble_eq_true rfl), (Nat.le_of_ble_eq_true rfl)⟩) (kx_no rfl) (fun u14 H locs hp13 G => ?_)
  obtain ⟨hM15, fr16⟩ := hp13
  refine lv_aload_n hx hb dX8_storeOvers_9 rfl (lv_at hl 0 rfl) ?_
  refine lv_iload_n hx hb dX8_storeOvers_10 rfl (lv_at hl 1 rfl) ?_
  have k18 : u14 x = some (.inr (10, [.ref (A (b + 0)), .ref (A (b2 + 0)), .ref lg, .ref lg_o, .ref tx, .ref rz, .ref ro, .int xea, .int xra, .int xkr])) := fr16 _ _ (by simp) h_x
  refine g_cR C0 G (g_runV C0 G (rest := []) (c_X8_rowAt0 hfl (A := A) (b := b) (b2 := b2) (xea := xea) (xra := xra) (xkr := xkr) k18) k18 rfl hY_X8_rowAt mm_X8_278 mi_X8_rowAt ml_X8_rowAt ⟨(Nat.le_of_ble_eq_true rfl), (Nat.le_of_ble_eq_true rfl)⟩ rfl hl.1 rfl (Nat.le_of_ble_eq_true rfl) dX8_storeOvers_11 ⟨(Nat.le_of_ble_eq_true rfl), (Nat.le_of_ble_eq_true rfl)⟩) (kx_no rfl) (fun a21 u20 H locs hp19 G => ?_)
  obtain ⟨er22, eu20⟩ := hp19
  have ser22 := er22.symm
  subst ser22
  rw [eu20] at G
  refine lv_aload_n hx hb dX8_storeOvers_14 rfl (lv_at hl 0 rfl) ?_
  refine g_get C0 G k18 rfl hiX8 0 (by decide) mf_X8_10 rfl dX8_storeOvers_15 ?_
  refine lv_iload_n hx hb dX8_storeOvers_18 rfl (lv_at hl 2 rfl) ?_
  have k23 : u14 (A (b + 0)) = some (.inr (4, [.ref (A (b + 1)), .int (cm 0), .int (cm 1), .int (cm 2), .int (cm 3), .int (cm 4)])) := hM15 0 (by omega)
  have k24 : u14 (A (b + 1)) = some (.inl (cy 3, 4, .inr (.inr (.inr (.inr q))))) := hM15 1 (by omega)
  refine g_cR C0 G (g_runV C0 G (rest := [.ref rz]) (c_X2_at0 hfl (A := A) (b := b) (ex := (cm 0)) (ov := (cm 1)) (ie := (cm 2)) (fi := (cm 3)) (nu := (cm 4)) (q := q) k23 k24 hAj hQ.1 hQ.2.1 hQ.2.2.1 hQ.2.2.2) k23 rfl hY_X2_at mm_X8_206 mi_X2_at ml_X2_at ⟨(Nat.le_of_ble_eq_true rfl), (Nat.le_of_ble_eq_true rfl)⟩ rfl hl.1 rfl (Nat.le_of_ble_eq_true rfl) dX8_storeOvers_19 ⟨(Nat.le_of_ble_eq_true rfl), (Nat.le_of_ble_eq_true rfl)⟩) (kx_no rfl) (fun a27 u26 H locs hp25 G => ?_)
  obtain ⟨zr, eu26⟩ := hp25
  replace zr := Eq.symm zr
  subst zr
  rw [eu26] at G
  refine lv_iload_n hx hb dX8_storeOvers_22 rfl (lv_at hl 3 rfl) ?_
  have k28 : u14 rz = some (.inr (6, [.ref fz, .int zst, .int zex, .int zln])) := fr16 _ _ (by simp) h_rz
  have k29 : u14 fz = some (.inl (cy 2, 20, .inr (.inr (.inl gz)))) := fr16 _ _ (by simp) h_fz
  have k30 : u14 (A (b + 2)) = some (.inr (2, [.ref (A (b + 3)), .ref (A (b + 5)), .ref (A (b + 7)), .ref (A (b + 9)), .ref (A (b + 11)), .ref (A (b + 13)), .int (cs 0 6 8), .int (cs 0 6 9), .int (cs 0 6 10), .int (cs 0 6 11), .int (cs 0 6 12)])) := hM15 2 (by omega)
  have k31 : u14 (A (b + 3)) = some (.inr (8, [.int 8, .ref (A (b + 4)), .int 1])) := by have h9 : u14 (A (b + 3)) = some (.inr (8, [.int 8, .ref (A (b + 4)), .int (cs 0 7 0)])) := hM15 3 (by omega); rw [hr0] at h9; exact h9
  have k32 : u14 (A (b + 4)) = some (.inl (cy 0, 8, .inl (cs 0 0))) := hM15 4 (by omega)
  have k33 : u14 (A (b + 13)) = some (.inr (5, [.ref (A (b + 14)), .int (cs 0 6 0), .int (cs 0 6 1), .int (cs 0 6 2), .int (cs 0 6 3), .int (cs 0 6 4), .int (cs 0 6 5), .int (cs 0 6 6), .int (cs 0 6 7)])) := hM15 13 (by omega)
  have k34 : u14 (A (b + 14)) = some (.inl (cy 0, 20, .inl (cs 0 5))) := hM15 14 (by omega)
  refine g_cI C0 G (g_runV C0 G (rest := []) (c_X4_store hfl (rst := zst) (rex := zex) (rln := zln) (gf := gz) (g0 := (cs 0 0)) (go := (cs 0 5)) (lm := (cs 0 6 0)) (lf := (cs 0 6 1)) (oc := (cs 0 6 2)) (bw := (cs 0 6 3)) (bb := (cs 0 6 4)) (bl := (cs 0 6 5)) (cd := (cs 0 6 6)) (hbg := (cs 0 6 7)) (rs := (cs 0 6 8)) (sk := (cs 0 6 9)) (ot := (cs 0 6 10)) (ch := (cs 0 6 11)) (nc := (cs 0 6 12)) ex k28 k29 k30 k31 k32 k33 k34 hbn hbn2 hb_ex) k28 rfl hY_X4_store mm_X8_282 mi_X4_store ml_X4_store ⟨(Nat.le_of_ble_eq_true rfl), (Nat.le_of_ble_eq_true rfl)⟩ rfl hl.1 rfl (Nat.le_of_ble_eq_true rfl) dX8_storeOvers_23 ⟨(Nat.le_of_ble_eq_true rfl), (Nat.le_of_ble_eq_true rfl)⟩) (kx_no rfl) (fun r37 u36 H locs hp35 G => ?_)
  obtain ⟨er38, k39, k40, fr41⟩ := hp35
  refine lv_topv (v := (X4_store_r1 bn)) er38 ?_
  have hM42 := MW_frN hM15 fr41 (fun y9 hy9 => by simp only [List.mem_cons, List.not_mem_nil, or_false] at hy9; rcases hy9 with q9 | q9; (rw [q9]; exact (MW_kind hM h_rz (by decide))); (rw [q9]; exact n_fz))
  exact g_iret C0 G hr dX8_storeOvers_26 (Nat.le_of_ble_eq_true rfl) (Nat.le_of_ble_eq_true rfl) (by exact ⟨rfl, k39, (by rw [(by rw [X8_storeOvers00_g0] : (X8_storeOvers00_g0 gz cs bn ex) = (X4_store_g2 gz (cs 0 0) (cs 0 5) (cs 0 6 2) ex bn))]; exact k40), hM42, (fun a9 e9 h7 h8 => fr41 _ _ (fun q => h7 (by simp only [List.mem_cons, List.not_mem_nil, or_false] at q ⊢; first | exact q | (rcases q with q | q <;> simp [q]) | omega)) (fr16 _ _ (by simp) (h8)))⟩)
def X8_storeOvers01_g0 (gz : Nat → UInt32) (cs : Nat → Nat → Nat → Int32) (bn : Nat) (ex : Int32) : Nat → UInt32 := (X4_store_g2 gz (cs 1 0) (cs 1 5) (cs 1 6 2) ex bn)
set_option maxRecDepth 100000 in
theorem c_X8_storeOvers01 {l : Launch} (hfl : l.stackTraces = false) {D : va_G} {cy : Nat → ClassId} {f : Hf} {sz : Nat} {x : Nat} {rz : Nat} {fz : Nat} {A : Nat → Nat} {b : Nat} {b2 : Nat} {lg : Nat} {lg_o : Nat} {tx : Nat} {ro : Nat} {xea : Int32} {xra : Int32} {xkr : Int32} {zst : Int32} {zex : Int32} {zln : Int32} {gz : Nat → UInt32} {q : Nat → Option Nat} {cm : Nat → Int32} {cs : Nat → Nat → Nat → Int32} {bn : Nat} (ex : Int32) (h_x : f x = some (.inr (10, [.ref (A (b + 0)), .ref (A (b2 + 0)), .ref lg, .ref lg_o, .ref tx, .ref rz, .ref ro, .int xea, .int xra, .int xkr]))) (h_rz : f rz = some (.inr (6, [.ref fz, .int zst, .int zex, .int zln]))) (h_fz : f fz = some (.inl (cy 2, 20, .inr (.inr (.inl gz))))) (hAj : ∀ i j : Nat, i ≠ j → A i ≠ A j) (hM : MW A b cy q cm cs f) (hQ : HQ A b q) (n_fz : fz ∉ MA A b) (v0 : ¬ (X8_isWithin_x1 0 0 1) = 0) (v1 : ¬ (X2_hasBegun_x2 (cm 0) (cm 4) 1) = 0) (hr0 : cs 1 7 0 = 1) (hbn : X3_begun_x0 (cs 1 6 2) (cs 1 6 7) = nI bn) (hbn2 : bn ≤ 20) (hb_ex : ex = 0 ∨ ex = 1) : hMet l yX8_storeOvers cX8_storeOvers 4 (some .int) { frames := 3, cells := 0, slots := 0, locals := 69 } D (hTy cy) f sz [.ref x, .int 0, .int 1, .int ex] (hQi (fun r u => r = (X4_store_r1 bn) ∧ u rz = some (.inr (6, [.ref fz, .int 1, .int ex, .int (nI bn)])) ∧ u fz = some (.inl (cy 2, 20, .inr (.inr (.inl (X8_storeOvers01_g0 gz cs bn ex))))) ∧ MW A b cy q cm cs u ∧ hFrL f u [rz, fz]) D f sz) hNo := by
  refine h_enter (by decide) hfl (Nat.le_of_ble_eq_true rfl) ?_
  intro p9 e9 s9 m9 b9 t9 c9 hsz C0 hr hnm G ls hl
  have hx := C0.1.1
  have hb := C0.1.2.1
  have hl : lv_has ls 4 [(0, .ref x), (1, .int 0), (2, .int 1), (3, .int ex)] := hl
  refine lv_iload_n hx hb dX8_storeOvers_0 rfl (lv_at hl 1 rfl) ?_
  refine g_cV C0 G (g_runS C0 G (rest := []) (c_X8_demandRowO hfl 0  v0) hY_X8_demandRow mm_X8_275 ms_X8_demandRow ⟨(Nat.le_of_ble_eq_true rfl), (Nat.le_of_ble_eq_true rfl)⟩ rfl hl.1 rfl (Nat.le_of_ble_eq_true rfl) dX8_storeOvers_1 ⟨(Nat.le_of_ble_eq_true rfl), (Nat.le_of_ble_eq_true rfl)⟩) (kx_no rfl) (fun u12 H locs hp11 G => ?_)
  have eu12 := hp11
  rw [eu12] at G
  refine lv_aload_n hx hb dX8_storeOvers_4 rfl (lv_at hl 0 rfl) ?_
  refine lv_iload_n hx hb dX8_storeOvers_5 rfl (lv_at hl 2 rfl) ?_
  refine g_cV C0 G (g_runV C0 G (rest := []) (c_X8_demandInningsO hfl (A := A) (b := b) (b2 := b2) (xea := xea) (xra := xra) (xkr := xkr) (cm := cm) (cs := cs) 1 h_x hAj hM hQ v1) h_x rfl hY_X8_demandInnings mm_X8_200 mi_X8_demandInnings ml_X8_demandInnings ⟨(Nat.le_of_ble_eq_true rfl), (Nat.le_of_ble_eq_true rfl)⟩ rfl hl.1 rfl (Nat.le_of_ble_eq_true rfl) dX8_storeOvers_6 ⟨(Nat.le_of_ble_eq_true rfl), (Nat.le_of_ble_eq_true rfl)⟩) (kx_no rfl) (fun u14 H locs hp13 G => ?_)
  obtain ⟨hM15, fr16⟩ := hp13
  refine lv_aload_n hx hb dX8_storeOvers_9 rfl (lv_at hl 0 rfl) ?_
  refine lv_iload_n hx hb dX8_storeOvers_10 rfl (lv_at hl 1 rfl) ?_
  have k18 : u14 x = some (.inr (10, [.ref (A (b + 0)), .ref (A (b2 + 0)), .ref lg, .ref lg_o, .ref tx, .ref rz, .ref ro, .int xea, .int xra, .int xkr])) := fr16 _ _ (by simp) h_x
  refine g_cR C0 G (g_runV C0 G (rest := []) (c_X8_rowAt0 hfl (A := A) (b := b) (b2 := b2) (xea := xea) (xra := xra) (xkr := xkr) k18) k18 rfl hY_X8_rowAt mm_X8_278 mi_X8_rowAt ml_X8_rowAt ⟨(Nat.le_of_ble_eq_true rfl), (Nat.le_of_ble_eq_true rfl)⟩ rfl hl.1 rfl (Nat.le_of_ble_eq_true rfl) dX8_storeOvers_11 ⟨(Nat.le_of_ble_eq_true rfl), (Nat.le_of_ble_eq_true rfl)⟩) (kx_no rfl) (fun a21 u20 H locs hp19 G => ?_)
  obtain ⟨er22, eu20⟩ := hp19
  have ser22 := er22.symm
  subst ser22
  rw [eu20] at G
  refine lv_aload_n hx hb dX8_storeOvers_14 rfl (lv_at hl 0 rfl) ?_
  refine g_get C0 G k18 rfl hiX8 0 (by decide) mf_X8_10 rfl dX8_storeOvers_15 ?_
  refine lv_iload_n hx hb dX8_storeOvers_18 rfl (lv_at hl 2 rfl) ?_
  have k23 : u14 (A (b + 0)) = some (.inr (4, [.ref (A (b + 1)), .int (cm 0), .int (cm 1), .int (cm 2), .int (cm 3), .int (cm 4)])) := hM15 0 (by omega)
  have k24 : u14 (A (b + 1)) = some (.inl (cy 3, 4, .inr (.inr (.inr (.inr q))))) := hM15 1 (by omega)
  refine g_cR C0 G (g_runV C0 G (rest := [.ref rz]) (c_X2_at1 hfl (A := A) (b := b) (ex := (cm 0)) (ov := (cm 1)) (ie := (cm 2)) (fi := (cm 3)) (nu := (cm 4)) (q := q) k23 k24 hAj hQ.1 hQ.2.1 hQ.2.2.1 hQ.2.2.2) k23 rfl hY_X2_at mm_X8_206 mi_X2_at ml_X2_at ⟨(Nat.le_of_ble_eq_true rfl), (Nat.le_of_ble_eq_true rfl)⟩ rfl hl.1 rfl (Nat.le_of_ble_eq_true rfl) dX8_storeOvers_19 ⟨(Nat.le_of_ble_eq_true rfl), (Nat.le_of_ble_eq_true rfl)⟩) (kx_no rfl) (fun a27 u26 H locs hp25 G => ?_)
  obtain ⟨zr, eu26⟩ := hp25
  replace zr := Eq.symm zr
  subst zr
  rw [eu26] at G
  refine lv_iload_n hx hb dX8_storeOvers_22 rfl (lv_at hl 3 rfl) ?_
  have k28 : u14 rz = some (.inr (6, [.ref fz, .int zst, .int zex, .int zln])) := fr16 _ _ (by simp) h_rz
  have k29 : u14 fz = some (.inl (cy 2, 20, .inr (.inr (.inl gz)))) := fr16 _ _ (by simp) h_fz
  have k30 : u14 (A (b + 15)) = some (.inr (2, [.ref (A (b + 16)), .ref (A (b + 18)), .ref (A (b + 20)), .ref (A (b + 22)), .ref (A (b + 24)), .ref (A (b + 26)), .int (cs 1 6 8), .int (cs 1 6 9), .int (cs 1 6 10), .int (cs 1 6 11), .int (cs 1 6 12)])) := hM15 15 (by omega)
  have k31 : u14 (A (b + 16)) = some (.inr (8, [.int 8, .ref (A (b + 17)), .int 1])) := by have h9 : u14 (A (b + 16)) = some (.inr (8, [.int 8, .ref (A (b + 17)), .int (cs 1 7 0)])) := hM15 16 (by omega); rw [hr0] at h9; exact h9
  have k32 : u14 (A (b + 17)) = some (.inl (cy 0, 8, .inl (cs 1 0))) := hM15 17 (by omega)
  have k33 : u14 (A (b + 26)) = some (.inr (5, [.ref (A (b + 27)), .int (cs 1 6 0), .int (cs 1 6 1), .int (cs 1 6 2), .int (cs 1 6 3), .int (cs 1 6 4), .int (cs 1 6 5), .int (cs 1 6 6), .int (cs 1 6 7)])) := hM15 26 (by omega)
  have k34 : u14 (A (b + 27)) = some (.inl (cy 0, 20, .inl (cs 1 5))) := hM15 27 (by omega)
  refine g_cI C0 G (g_runV C0 G (rest := []) (c_X4_store hfl (rst := zst) (rex := zex) (rln := zln) (gf := gz) (g0 := (cs 1 0)) (go := (cs 1 5)) (lm := (cs 1 6 0)) (lf := (cs 1 6 1)) (oc := (cs 1 6 2)) (bw := (cs 1 6 3)) (bb := (cs 1 6 4)) (bl := (cs 1 6 5)) (cd := (cs 1 6 6)) (hbg := (cs 1 6 7)) (rs := (cs 1 6 8)) (sk := (cs 1 6 9)) (ot := (cs 1 6 10)) (ch := (cs 1 6 11)) (nc := (cs 1 6 12)) ex k28 k29 k30 k31 k32 k33 k34 hbn hbn2 hb_ex) k28 rfl hY_X4_store mm_X8_282 mi_X4_store ml_X4_store ⟨(Nat.le_of_ble_eq_true rfl), (Nat.le_of_ble_eq_true rfl)⟩ rfl hl.1 rfl (Nat.le_of_ble_eq_true rfl) dX8_storeOvers_23 ⟨(Nat.le_of_ble_eq_true rfl), (Nat.le_of_ble_eq_true rfl)⟩) (kx_no rfl) (fun r37 u36 H locs hp35 G => ?_)
  obtain ⟨er38, k39, k40, fr41⟩ := hp35
  refine lv_topv (v := (X4_store_r1 bn)) er38 ?_
  have hM42 := MW_frN hM15 fr41 (fun y9 hy9 => by simp only [List.mem_cons, List.not_mem_nil, or_false] at hy9; rcases hy9 with q9 | q9; (rw [q9]; exact (MW_kind hM h_rz (by decide))); (rw [q9]; exact n_fz))
  exact g_iret C0 G hr dX8_storeOvers_26 (Nat.le_of_ble_eq_true rfl) (Nat.le_of_ble_eq_true rfl) (by exact ⟨rfl, k39, (by rw [(by rw [X8_storeOvers01_g0] : (X8_storeOvers01_g0 gz cs bn ex) = (X4_store_g2 gz (cs 1 0) (cs 1 5) (cs 1 6 2) ex bn))]; exact k40), hM42, (fun a9 e9 h7 h8 => fr41 _ _ (fun q => h7 (by simp only [List.mem_cons, List.not_mem_nil, or_false] at q ⊢; first | exact q | (rcases q with q | q <;> simp [q]) | omega)) (fr16 _ _ (by simp) (h8)))⟩)
def X8_storeOvers02_g0 (gz : Nat → UInt32) (cs : Nat → Nat → Nat → Int32) (bn : Nat) (ex : Int32) : Nat → UInt32 := (X4_store_g2 gz (cs 2 0) (cs 2 5) (cs 2 6 2) ex bn)
set_option maxRecDepth 100000 in
theorem c_X8_storeOvers02 {l : Launch} (hfl : l.stackTraces = false) {D : va_G} {cy : Nat → ClassId} {f : Hf} {sz : Nat} {x : Nat} {rz : Nat} {fz : Nat} {A : Nat → Nat} {b : Nat} {b2 : Nat} {lg : Nat} {lg_o : Nat} {tx : Nat} {ro : Nat} {xea : Int32} {xra : Int32} {xkr : Int32} {zst : Int32} {zex : Int32} {zln : Int32} {gz : Nat → UInt32} {q : Nat → Option Nat} {cm : Nat → Int32} {cs : Nat → Nat → Nat → Int32} {bn : Nat} (ex : Int32) (h_x : f x = some (.inr (10, [.ref (A (b + 0)), .ref (A (b2 + 0)), .ref lg, .ref lg_o, .ref tx, .ref rz, .ref ro, .int xea, .int xra, .int xkr]))) (h_rz : f rz = some (.inr (6, [.ref fz, .int zst, .int zex, .int zln]))) (h_fz : f fz = some (.inl (cy 2, 20, .inr (.inr (.inl gz))))) (hAj : ∀ i j : Nat, i ≠ j → A i ≠ A j) (hM : MW A b cy q cm cs f) (hQ : HQ A b q) (n_fz : fz ∉ MA A b) (v0 : ¬ (X8_isWithin_x1 0 0 1) = 0) (v1 : ¬ (X2_hasBegun_x2 (cm 0) (cm 4) 2) = 0) (hr0 : cs 2 7 0 = 1) (hbn : X3_begun_x0 (cs 2 6 2) (cs 2 6 7) = nI bn) (hbn2 : bn ≤ 20) (hb_ex : ex = 0 ∨ ex = 1) : hMet l yX8_storeOvers cX8_storeOvers 4 (some .int) { frames := 3, cells := 0, slots := 0, locals := 69 } D (hTy cy) f sz [.ref x, .int 0, .int 2, .int ex] (hQi (fun r u => r = (X4_store_r1 bn) ∧ u rz = some (.inr (6, [.ref fz, .int 1, .int ex, .int (nI bn)])) ∧ u fz = some (.inl (cy 2, 20, .inr (.inr (.inl (X8_storeOvers02_g0 gz cs bn ex))))) ∧ MW A b cy q cm cs u ∧ hFrL f u [rz, fz]) D f sz) hNo := by
  refine h_enter (by decide) hfl (Nat.le_of_ble_eq_true rfl) ?_
  intro p9 e9 s9 m9 b9 t9 c9 hsz C0 hr hnm G ls hl
  have hx := C0.1.1
  have hb := C0.1.2.1
  have hl : lv_has ls 4 [(0, .ref x), (1, .int 0), (2, .int 2), (3, .int ex)] := hl
  refine lv_iload_n hx hb dX8_storeOvers_0 rfl (lv_at hl 1 rfl) ?_
  refine g_cV C0 G (g_runS C0 G (rest := []) (c_X8_demandRowO hfl 0  v0) hY_X8_demandRow mm_X8_275 ms_X8_demandRow ⟨(Nat.le_of_ble_eq_true rfl), (Nat.le_of_ble_eq_true rfl)⟩ rfl hl.1 rfl (Nat.le_of_ble_eq_true rfl) dX8_storeOvers_1 ⟨(Nat.le_of_ble_eq_true rfl), (Nat.le_of_ble_eq_true rfl)⟩) (kx_no rfl) (fun u12 H locs hp11 G => ?_)
  have eu12 := hp11
  rw [eu12] at G
  refine lv_aload_n hx hb dX8_storeOvers_4 rfl (lv_at hl 0 rfl) ?_
  refine lv_iload_n hx hb dX8_storeOvers_5 rfl (lv_at hl 2 rfl) ?_
  refine g_cV C0 G (g_runV C0 G (rest := []) (c_X8_demandInningsO hfl (A := A) (b := b) (b2 := b2) (xea := xea) (xra := xra) (xkr := xkr) (cm := cm) (cs := cs) 2 h_x hAj hM hQ v1) h_x rfl hY_X8_demandInnings mm_X8_200 mi_X8_demandInnings ml_X8_demandInnings ⟨(Nat.le_of_ble_eq_true rfl), (Nat.le_of_ble_eq_true rfl)⟩ rfl hl.1 rfl (Nat.le_of_ble_eq_true rfl) dX8_storeOvers_6 ⟨(Nat.le_of_ble_eq_true rfl), (Nat.le_of_ble_eq_true rfl)⟩) (kx_no rfl) (fun u14 H locs hp13 G => ?_)
  obtain ⟨hM15, fr16⟩ := hp13
  refine lv_aload_n hx hb dX8_storeOvers_9 rfl (lv_at hl 0 rfl) ?_
  refine lv_iload_n hx hb dX8_storeOvers_10 rfl (lv_at hl 1 rfl) ?_
  have k18 : u14 x = some (.inr (10, [.ref (A (b + 0)), .ref (A (b2 + 0)), .ref lg, .ref lg_o, .ref tx, .ref rz, .ref ro, .int xea, .int xra, .int xkr])) := fr16 _ _ (by simp) h_x
  refine g_cR C0 G (g_runV C0 G (rest := []) (c_X8_rowAt0 hfl (A := A) (b := b) (b2 := b2) (xea := xea) (xra := xra) (xkr := xkr) k18) k18 rfl hY_X8_rowAt mm_X8_278 mi_X8_rowAt ml_X8_rowAt ⟨(Nat.le_of_ble_eq_true rfl), (Nat.le_of_ble_eq_true rfl)⟩ rfl hl.1 rfl (Nat.le_of_ble_eq_true rfl) dX8_storeOvers_11 ⟨(Nat.le_of_ble_eq_true rfl), (Nat.le_of_ble_eq_true rfl)⟩) (kx_no rfl) (fun a21 u20 H locs hp19 G => ?_)
  obtain ⟨er22, eu20⟩ := hp19
  have ser22 := er22.symm
  subst ser22
  rw [eu20] at G
  refine lv_aload_n hx hb dX8_storeOvers_14 rfl (lv_at hl 0 rfl) ?_
  refine g_get C0 G k18 rfl hiX8 0 (by decide) mf_X8_10 rfl dX8_storeOvers_15 ?_
  refine lv_iload_n hx hb dX8_storeOvers_18 rfl (lv_at hl 2 rfl) ?_
  have k23 : u14 (A (b + 0)) = some (.inr (4, [.ref (A (b + 1)), .int (cm 0), .int (cm 1), .int (cm 2), .int (cm 3), .int (cm 4)])) := hM15 0 (by omega)
  have k24 : u14 (A (b + 1)) = some (.inl (cy 3, 4, .inr (.inr (.inr (.inr q))))) := hM15 1 (by omega)
  refine g_cR C0 G (g_runV C0 G (rest := [.ref rz]) (c_X2_at2 hfl (A := A) (b := b) (ex := (cm 0)) (ov := (cm 1)) (ie := (cm 2)) (fi := (cm 3)) (nu := (cm 4)) (q := q) k23 k24 hAj hQ.1 hQ.2.1 hQ.2.2.1 hQ.2.2.2) k23 rfl hY_X2_at mm_X8_206 mi_X2_at ml_X2_at ⟨(Nat.le_of_ble_eq_true rfl), (Nat.le_of_ble_eq_true rfl)⟩ rfl hl.1 rfl (Nat.le_of_ble_eq_true rfl) dX8_storeOvers_19 ⟨(Nat.le_of_ble_eq_true rfl), (Nat.le_of_ble_eq_true rfl)⟩) (kx_no rfl) (fun a27 u26 H locs hp25 G => ?_)
  obtain ⟨zr, eu26⟩ := hp25
  replace zr := Eq.symm zr
  subst zr
  rw [eu26] at G
  refine lv_iload_n hx hb dX8_storeOvers_22 rfl (lv_at hl 3 rfl) ?_
  have k28 : u14 rz = some (.inr (6, [.ref fz, .int zst, .int zex, .int zln])) := fr16 _ _ (by simp) h_rz
  have k29 : u14 fz = some (.inl (cy 2, 20, .inr (.inr (.inl gz)))) := fr16 _ _ (by simp) h_fz
  have k30 : u14 (A (b + 28)) = some (.inr (2, [.ref (A (b + 29)), .ref (A (b + 31)), .ref (A (b + 33)), .ref (A (b + 35)), .ref (A (b + 37)), .ref (A (b + 39)), .int (cs 2 6 8), .int (cs 2 6 9), .int (cs 2 6 10), .int (cs 2 6 11), .int (cs 2 6 12)])) := hM15 28 (by omega)
  have k31 : u14 (A (b + 29)) = some (.inr (8, [.int 8, .ref (A (b + 30)), .int 1])) := by have h9 : u14 (A (b + 29)) = some (.inr (8, [.int 8, .ref (A (b + 30)), .int (cs 2 7 0)])) := hM15 29 (by omega); rw [hr0] at h9; exact h9
  have k32 : u14 (A (b + 30)) = some (.inl (cy 0, 8, .inl (cs 2 0))) := hM15 30 (by omega)
  have k33 : u14 (A (b + 39)) = some (.inr (5, [.ref (A (b + 40)), .int (cs 2 6 0), .int (cs 2 6 1), .int (cs 2 6 2), .int (cs 2 6 3), .int (cs 2 6 4), .int (cs 2 6 5), .int (cs 2 6 6), .int (cs 2 6 7)])) := hM15 39 (by omega)
  have k34 : u14 (A (b + 40)) = some (.inl (cy 0, 20, .inl (cs 2 5))) := hM15 40 (by omega)
  refine g_cI C0 G (g_runV C0 G (rest := []) (c_X4_store hfl (rst := zst) (rex := zex) (rln := zln) (gf := gz) (g0 := (cs 2 0)) (go := (cs 2 5)) (lm := (cs 2 6 0)) (lf := (cs 2 6 1)) (oc := (cs 2 6 2)) (bw := (cs 2 6 3)) (bb := (cs 2 6 4)) (bl := (cs 2 6 5)) (cd := (cs 2 6 6)) (hbg := (cs 2 6 7)) (rs := (cs 2 6 8)) (sk := (cs 2 6 9)) (ot := (cs 2 6 10)) (ch := (cs 2 6 11)) (nc := (cs 2 6 12)) ex k28 k29 k30 k31 k32 k33 k34 hbn hbn2 hb_ex) k28 rfl hY_X4_store mm_X8_282 mi_X4_store ml_X4_store ⟨(Nat.le_of_ble_eq_true rfl), (Nat.le_of_ble_eq_true rfl)⟩ rfl hl.1 rfl (Nat.le_of_ble_eq_true rfl) dX8_storeOvers_23 ⟨(Nat.le_of_ble_eq_true rfl), (Nat.le_of_ble_eq_true rfl)⟩) (kx_no rfl) (fun r37 u36 H locs hp35 G => ?_)
  obtain ⟨er38, k39, k40, fr41⟩ := hp35
  refine lv_topv (v := (X4_store_r1 bn)) er38 ?_
  have hM42 := MW_frN hM15 fr41 (fun y9 hy9 => by simp only [List.mem_cons, List.not_mem_nil, or_false] at hy9; rcases hy9 with q9 | q9; (rw [q9]; exact (MW_kind hM h_rz (by decide))); (rw [q9]; exact n_fz))
  exact g_iret C0 G hr dX8_storeOvers_26 (Nat.le_of_ble_eq_true rfl) (Nat.le_of_ble_eq_true rfl) (by exact ⟨rfl, k39, (by rw [(by rw [X8_storeOvers02_g0] : (X8_storeOvers02_g0 gz cs bn ex) = (X4_store_g2 gz (cs 2 0) (cs 2 5) (cs 2 6 2) ex bn))]; exact k40), hM42, (fun a9 e9 h7 h8 => fr41 _ _ (fun q => h7 (by simp only [List.mem_cons, List.not_mem_nil, or_false] at q ⊢; first | exact q | (rcases q with q | q <;> simp [q]) | omega)) (fr16 _ _ (by simp) (h8)))⟩)
def X8_storeOvers03_g0 (gz : Nat → UInt32) (cs : Nat → Nat → Nat → Int32) (bn : Nat) (ex : Int32) : Nat → UInt32 := (X4_store_g2 gz (cs 3 0) (cs 3 5) (cs 3 6 2) ex bn)
set_option maxRecDepth 100000 in
theorem c_X8_storeOvers03 {l : Launch} (hfl : l.stackTraces = false) {D : va_G} {cy : Nat → ClassId} {f : Hf} {sz : Nat} {x : Nat} {rz : Nat} {fz : Nat} {A : Nat → Nat} {b : Nat} {b2 : Nat} {lg : Nat} {lg_o : Nat} {tx : Nat} {ro : Nat} {xea : Int32} {xra : Int32} {xkr : Int32} {zst : Int32} {zex : Int32} {zln : Int32} {gz : Nat → UInt32} {q : Nat → Option Nat} {cm : Nat → Int32} {cs : Nat → Nat → Nat → Int32} {bn : Nat} (ex : Int32) (h_x : f x = some (.inr (10, [.ref (A (b + 0)), .ref (A (b2 + 0)), .ref lg, .ref lg_o, .ref tx, .ref rz, .ref ro, .int xea, .int xra, .int xkr]))) (h_rz : f rz = some (.inr (6, [.ref fz, .int zst, .int zex, .int zln]))) (h_fz : f fz = some (.inl (cy 2, 20, .inr (.inr (.inl gz))))) (hAj : ∀ i j : Nat, i ≠ j → A i ≠ A j) (hM : MW A b cy q cm cs f) (hQ : HQ A b q) (n_fz : fz ∉ MA A b) (v0 : ¬ (X8_isWithin_x1 0 0 1) = 0) (v1 : ¬ (X2_hasBegun_x2 (cm 0) (cm 4) 3) = 0) (hr0 : cs 3 7 0 = 1) (hbn : X3_begun_x0 (cs 3 6 2) (cs 3 6 7) = nI bn) (hbn2 : bn ≤ 20) (hb_ex : ex = 0 ∨ ex = 1) : hMet l yX8_storeOvers cX8_storeOvers 4 (some .int) { frames := 3, cells := 0, slots := 0, locals := 69 } D (hTy cy) f sz [.ref x, .int 0, .int 3, .int ex] (hQi (fun r u => r = (X4_store_r1 bn) ∧ u rz = some (.inr (6, [.ref fz, .int 1, .int ex, .int (nI bn)])) ∧ u fz = some (.inl (cy 2, 20, .inr (.inr (.inl (X8_storeOvers03_g0 gz cs bn ex))))) ∧ MW A b cy q cm cs u ∧ hFrL f u [rz, fz]) D f sz) hNo := by
  refine h_enter (by decide) hfl (Nat.le_of_ble_eq_true rfl) ?_
  intro p9 e9 s9 m9 b9 t9 c9 hsz C0 hr hnm G ls hl
  have hx := C0.1.1
  have hb := C0.1.2.1
  have hl : lv_has ls 4 [(0, .ref x), (1, .int 0), (2, .int 3), (3, .int ex)] := hl
  refine lv_iload_n hx hb dX8_storeOvers_0 rfl (lv_at hl 1 rfl) ?_
  refine g_cV C0 G (g_runS C0 G (rest := []) (c_X8_demandRowO hfl 0  v0) hY_X8_demandRow mm_X8_275 ms_X8_demandRow ⟨(Nat.le_of_ble_eq_true rfl), (Nat.le_of_ble_eq_true rfl)⟩ rfl hl.1 rfl (Nat.le_of_ble_eq_true rfl) dX8_storeOvers_1 ⟨(Nat.le_of_ble_eq_true rfl), (Nat.le_of_ble_eq_true rfl)⟩) (kx_no rfl) (fun u12 H locs hp11 G => ?_)
  have eu12 := hp11
  rw [eu12] at G
  refine lv_aload_n hx hb dX8_storeOvers_4 rfl (lv_at hl 0 rfl) ?_
  refine lv_iload_n hx hb dX8_storeOvers_5 rfl (lv_at hl 2 rfl) ?_
  refine g_cV C0 G (g_runV C0 G (rest := []) (c_X8_demandInningsO hfl (A := A) (b := b) (b2 := b2) (xea := xea) (xra := xra) (xkr := xkr) (cm := cm) (cs := cs) 3 h_x hAj hM hQ v1) h_x rfl hY_X8_demandInnings mm_X8_200 mi_X8_demandInnings ml_X8_demandInnings ⟨(Nat.le_of_ble_eq_true rfl), (Nat.le_of_ble_eq_true rfl)⟩ rfl hl.1 rfl (Nat.le_of_ble_eq_true rfl) dX8_storeOvers_6 ⟨(Nat.le_of_ble_eq_true rfl), (Nat.le_of_ble_eq_true rfl)⟩) (kx_no rfl) (fun u14 H locs hp13 G => ?_)
  obtain ⟨hM15, fr16⟩ := hp13
  refine lv_aload_n hx hb dX8_storeOvers_9 rfl (lv_at hl 0 rfl) ?_
  refine lv_iload_n hx hb dX8_storeOvers_10 rfl (lv_at hl 1 rfl) ?_
  have k18 : u14 x = some (.inr (10, [.ref (A (b + 0)), .ref (A (b2 + 0)), .ref lg, .ref lg_o, .ref tx, .ref rz, .ref ro, .int xea, .int xra, .int xkr])) := fr16 _ _ (by simp) h_x
  refine g_cR C0 G (g_runV C0 G (rest := []) (c_X8_rowAt0 hfl (A := A) (b := b) (b2 := b2) (xea := xea) (xra := xra) (xkr := xkr) k18) k18 rfl hY_X8_rowAt mm_X8_278 mi_X8_rowAt ml_X8_rowAt ⟨(Nat.le_of_ble_eq_true rfl), (Nat.le_of_ble_eq_true rfl)⟩ rfl hl.1 rfl (Nat.le_of_ble_eq_true rfl) dX8_storeOvers_11 ⟨(Nat.le_of_ble_eq_true rfl), (Nat.le_of_ble_eq_true rfl)⟩) (kx_no rfl) (fun a21 u20 H locs hp19 G => ?_)
  obtain ⟨er22, eu20⟩ := hp19
  have ser22 := er22.symm
  subst ser22
  rw [eu20] at G
  refine lv_aload_n hx hb dX8_storeOvers_14 rfl (lv_at hl 0 rfl) ?_
  refine g_get C0 G k18 rfl hiX8 0 (by decide) mf_X8_10 rfl dX8_storeOvers_15 ?_
  refine lv_iload_n hx hb dX8_storeOvers_18 rfl (lv_at hl 2 rfl) ?_
  have k23 : u14 (A (b + 0)) = some (.inr (4, [.ref (A (b + 1)), .int (cm 0), .int (cm 1), .int (cm 2), .int (cm 3), .int (cm 4)])) := hM15 0 (by omega)
  have k24 : u14 (A (b + 1)) = some (.inl (cy 3, 4, .inr (.inr (.inr (.inr q))))) := hM15 1 (by omega)
  refine g_cR C0 G (g_runV C0 G (rest := [.ref rz]) (c_X2_at3 hfl (A := A) (b := b) (ex := (cm 0)) (ov := (cm 1)) (ie := (cm 2)) (fi := (cm 3)) (nu := (cm 4)) (q := q) k23 k24 hAj hQ.1 hQ.2.1 hQ.2.2.1 hQ.2.2.2) k23 rfl hY_X2_at mm_X8_206 mi_X2_at ml_X2_at ⟨(Nat.le_of_ble_eq_true rfl), (Nat.le_of_ble_eq_true rfl)⟩ rfl hl.1 rfl (Nat.le_of_ble_eq_true rfl) dX8_storeOvers_19 ⟨(Nat.le_of_ble_eq_true rfl), (Nat.le_of_ble_eq_true rfl)⟩) (kx_no rfl) (fun a27 u26 H locs hp25 G => ?_)
  obtain ⟨zr, eu26⟩ := hp25
  replace zr := Eq.symm zr
  subst zr
  rw [eu26] at G
  refine lv_iload_n hx hb dX8_storeOvers_22 rfl (lv_at hl 3 rfl) ?_
  have k28 : u14 rz = some (.inr (6, [.ref fz, .int zst, .int zex, .int zln])) := fr16 _ _ (by simp) h_rz
  have k29 : u14 fz = some (.inl (cy 2, 20, .inr (.inr (.inl gz)))) := fr16 _ _ (by simp) h_fz
  have k30 : u14 (A (b + 41)) = some (.inr (2, [.ref (A (b + 42)), .ref (A (b + 44)), .ref (A (b + 46)), .ref (A (b + 48)), .ref (A (b + 50)), .ref (A (b + 52)), .int (cs 3 6 8), .int (cs 3 6 9), .int (cs 3 6 10), .int (cs 3 6 11), .int (cs 3 6 12)])) := hM15 41 (by omega)
  have k31 : u14 (A (b + 42)) = some (.inr (8, [.int 8, .ref (A (b + 43)), .int 1])) := by have h9 : u14 (A (b + 42)) = some (.inr (8, [.int 8, .ref (A (b + 43)), .int (cs 3 7 0)])) := hM15 42 (by omega); rw [hr0] at h9; exact h9
  have k32 : u14 (A (b + 43)) = some (.inl (cy 0, 8, .inl (cs 3 0))) := hM15 43 (by omega)
  have k33 : u14 (A (b + 52)) = some (.inr (5, [.ref (A (b + 53)), .int (cs 3 6 0), .int (cs 3 6 1), .int (cs 3 6 2), .int (cs 3 6 3), .int (cs 3 6 4), .int (cs 3 6 5), .int (cs 3 6 6), .int (cs 3 6 7)])) := hM15 52 (by omega)
  have k34 : u14 (A (b + 53)) = some (.inl (cy 0, 20, .inl (cs 3 5))) := hM15 53 (by omega)
  refine g_cI C0 G (g_runV C0 G (rest := []) (c_X4_store hfl (rst := zst) (rex := zex) (rln := zln) (gf := gz) (g0 := (cs 3 0)) (go := (cs 3 5)) (lm := (cs 3 6 0)) (lf := (cs 3 6 1)) (oc := (cs 3 6 2)) (bw := (cs 3 6 3)) (bb := (cs 3 6 4)) (bl := (cs 3 6 5)) (cd := (cs 3 6 6)) (hbg := (cs 3 6 7)) (rs := (cs 3 6 8)) (sk := (cs 3 6 9)) (ot := (cs 3 6 10)) (ch := (cs 3 6 11)) (nc := (cs 3 6 12)) ex k28 k29 k30 k31 k32 k33 k34 hbn hbn2 hb_ex) k28 rfl hY_X4_store mm_X8_282 mi_X4_store ml_X4_store ⟨(Nat.le_of_ble_eq_true rfl), (Nat.le_of_ble_eq_true rfl)⟩ rfl hl.1 rfl (Nat.le_of_ble_eq_true rfl) dX8_storeOvers_23 ⟨(Nat.le_of_ble_eq_true rfl), (Nat.le_of_ble_eq_true rfl)⟩) (kx_no rfl) (fun r37 u36 H locs hp35 G => ?_)
  obtain ⟨er38, k39, k40, fr41⟩ := hp35
  refine lv_topv (v := (X4_store_r1 bn)) er38 ?_
  have hM42 := MW_frN hM15 fr41 (fun y9 hy9 => by simp only [List.mem_cons, List.not_mem_nil, or_false] at hy9; rcases hy9 with q9 | q9; (rw [q9]; exact (MW_kind hM h_rz (by decide))); (rw [q9]; exact n_fz))
  exact g_iret C0 G hr dX8_storeOvers_26 (Nat.le_of_ble_eq_true rfl) (Nat.le_of_ble_eq_true rfl) (by exact ⟨rfl, k39, (by rw [(by rw [X8_storeOvers03_g0] : (X8_storeOvers03_g0 gz cs bn ex) = (X4_store_g2 gz (cs 3 0) (cs 3 5) (cs 3 6 2) ex bn))]; exact k40), hM42, (fun a9 e9 h7 h8 => fr41 _ _ (fun q => h7 (by simp only [List.mem_cons, List.not_mem_nil, or_false] at q ⊢; first | exact q | (rcases q with q | q <;> simp [q]) | omega)) (fr16 _ _ (by simp) (h8)))⟩)
def X8_storeOvers10_g0 (gy : Nat → UInt32) (cs : Nat → Nat → Nat → Int32) (bn : Nat) (ex : Int32) : Nat → UInt32 := (X4_store_g2 gy (cs 0 0) (cs 0 5) (cs 0 6 2) ex bn)
set_option maxRecDepth 100000 in
theorem c_X8_storeOvers10 {l : Launch} (hfl : l.stackTraces = false) {D : va_G} {cy : Nat → ClassId} {f : Hf} {sz : Nat} {x : Nat} {ro : Nat} {fo : Nat} {A : Nat → Nat} {b : Nat} {b2 : Nat} {lg : Nat} {lg_o : Nat} {tx : Nat} {rz : Nat} {xea : Int32} {xra : Int32} {xkr : Int32} {ost : Int32} {oex : Int32} {oln : Int32} {gy : Nat → UInt32} {q : Nat → Option Nat} {cm : Nat → Int32} {cs : Nat → Nat → Nat → Int32} {bn : Nat} (ex : Int32) (h_x : f x = some (.inr (10, [.ref (A (b + 0)), .ref (A (b2 + 0)), .ref lg, .ref lg_o, .ref tx, .ref rz, .ref ro, .int xea, .int xra, .int xkr]))) (h_ro : f ro = some (.inr (6, [.ref fo, .int ost, .int oex, .int oln]))) (h_fo : f fo = some (.inl (cy 2, 20, .inr (.inr (.inl gy))))) (hAj : ∀ i j : Nat, i ≠ j → A i ≠ A j) (hM : MW A b cy q cm cs f) (hQ : HQ A b q) (n_fo : fo ∉ MA A b) (v0 : ¬ (X8_isWithin_x1 1 0 1) = 0) (v1 : ¬ (X2_hasBegun_x2 (cm 0) (cm 4) 0) = 0) (hr0 : cs 0 7 0 = 1) (hbn : X3_begun_x0 (cs 0 6 2) (cs 0 6 7) = nI bn) (hbn2 : bn ≤ 20) (hb_ex : ex = 0 ∨ ex = 1) : hMet l yX8_storeOvers cX8_storeOvers 4 (some .int) { frames := 3, cells := 0, slots := 0, locals := 69 } D (hTy cy) f sz [.ref x, .int 1, .int 0, .int ex] (hQi (fun r u => r = (X4_store_r1 bn) ∧ u ro = some (.inr (6, [.ref fo, .int 1, .int ex, .int (nI bn)])) ∧ u fo = some (.inl (cy 2, 20, .inr (.inr (.inl (X8_storeOvers10_g0 gy cs bn ex))))) ∧ MW A b cy q cm cs u ∧ hFrL f u [ro, fo]) D f sz) hNo := by
  refine h_enter (by decide) hfl (Nat.le_of_ble_eq_true rfl) ?_
  intro p9 e9 s9 m9 b9 t9 c9 hsz C0 hr hnm G ls hl
  have hx := C0.1.1
  have hb := C0.1.2.1
  have hl : lv_has ls 4 [(0, .ref x), (1, .int 1), (2, .int 0), (3, .int ex)] := hl
  refine lv_iload_n hx hb dX8_storeOvers_0 rfl (lv_at hl 1 rfl) ?_
  refine g_cV C0 G (g_runS C0 G (rest := []) (c_X8_demandRowO hfl 1  v0) hY_X8_demandRow mm_X8_275 ms_X8_demandRow ⟨(Nat.le_of_ble_eq_true rfl), (Nat.le_of_ble_eq_true rfl)⟩ rfl hl.1 rfl (Nat.le_of_ble_eq_true rfl) dX8_storeOvers_1 ⟨(Nat.le_of_ble_eq_true rfl), (Nat.le_of_ble_eq_true rfl)⟩) (kx_no rfl) (fun u12 H locs hp11 G => ?_)
  have eu12 := hp11
  rw [eu12] at G
  refine lv_aload_n hx hb dX8_storeOvers_4 rfl (lv_at hl 0 rfl) ?_
  refine lv_iload_n hx hb dX8_storeOvers_5 rfl (lv_at hl 2 rfl) ?_
  refine g_cV C0 G (g_runV C0 G (rest := []) (c_X8_demandInningsO hfl (A := A) (b := b) (b2 := b2) (xea := xea) (xra := xra) (xkr := xkr) (cm := cm) (cs := cs) 0 h_x hAj hM hQ v1) h_x rfl hY_X8_demandInnings mm_X8_200 mi_X8_demandInnings ml_X8_demandInnings ⟨(Nat.le_of_ble_eq_true rfl), (Nat.le_of_ble_eq_true rfl)⟩ rfl hl.1 rfl (Nat.le_of_ble_eq_true rfl) dX8_storeOvers_6 ⟨(Nat.le_of_ble_eq_true rfl), (Nat.le_of_ble_eq_true rfl)⟩) (kx_no rfl) (fun u14 H locs hp13 G => ?_)
  obtain ⟨hM15, fr16⟩ := hp13
  refine lv_aload_n hx hb dX8_storeOvers_9 rfl (lv_at hl 0 rfl) ?_
  refine lv_iload_n hx hb dX8_storeOvers_10 rfl (lv_at hl 1 rfl) ?_
  have k18 : u14 x = some (.inr (10, [.ref (A (b + 0)), .ref (A (b2 + 0)), .ref lg, .ref lg_o, .ref tx, .ref rz, .ref ro, .int xea, .int xra, .int xkr])) := fr16 _ _ (by simp) h_x
  refine g_cR C0 G (g_runV C0 G (rest := []) (c_X8_rowAt1 hfl (A := A) (b := b) (b2 := b2) (xea := xea) (xra := xra) (xkr := xkr) k18) k18 rfl hY_X8_rowAt mm_X8_278 mi_X8_rowAt ml_X8_rowAt ⟨(Nat.le_of_ble_eq_true rfl), (Nat.le_of_ble_eq_true rfl)⟩ rfl hl.1 rfl (Nat.le_of_ble_eq_true rfl) dX8_storeOvers_11 ⟨(Nat.le_of_ble_eq_true rfl), (Nat.le_of_ble_eq_true rfl)⟩) (kx_no rfl) (fun a21 u20 H locs hp19 G => ?_)
  obtain ⟨er22, eu20⟩ := hp19
  have ser22 := er22.symm
  subst ser22
  rw [eu20] at G
  refine lv_aload_n hx hb dX8_storeOvers_14 rfl (lv_at hl 0 rfl) ?_
  refine g_get C0 G k18 rfl hiX8 0 (by decide) mf_X8_10 rfl dX8_storeOvers_15 ?_
  refine lv_iload_n hx hb dX8_storeOvers_18 rfl (lv_at hl 2 rfl) ?_
  have k23 : u14 (A (b + 0)) = some (.inr (4, [.ref (A (b + 1)), .int (cm 0), .int (cm 1), .int (cm 2), .int (cm 3), .int (cm 4)])) := hM15 0 (by omega)
  have k24 : u14 (A (b + 1)) = some (.inl (cy 3, 4, .inr (.inr (.inr (.inr q))))) := hM15 1 (by omega)
  refine g_cR C0 G (g_runV C0 G (rest := [.ref ro]) (c_X2_at0 hfl (A := A) (b := b) (ex := (cm 0)) (ov := (cm 1)) (ie := (cm 2)) (fi := (cm 3)) (nu := (cm 4)) (q := q) k23 k24 hAj hQ.1 hQ.2.1 hQ.2.2.1 hQ.2.2.2) k23 rfl hY_X2_at mm_X8_206 mi_X2_at ml_X2_at ⟨(Nat.le_of_ble_eq_true rfl), (Nat.le_of_ble_eq_true rfl)⟩ rfl hl.1 rfl (Nat.le_of_ble_eq_true rfl) dX8_storeOvers_19 ⟨(Nat.le_of_ble_eq_true rfl), (Nat.le_of_ble_eq_true rfl)⟩) (kx_no rfl) (fun a27 u26 H locs hp25 G => ?_)
  obtain ⟨zr, eu26⟩ := hp25
  replace zr := Eq.symm zr
  subst zr
  rw [eu26] at G
  refine lv_iload_n hx hb dX8_storeOvers_22 rfl (lv_at hl 3 rfl) ?_
  have k28 : u14 ro = some (.inr (6, [.ref fo, .int ost, .int oex, .int oln])) := fr16 _ _ (by simp) h_ro
  have k29 : u14 fo = some (.inl (cy 2, 20, .inr (.inr (.inl gy)))) := fr16 _ _ (by simp) h_fo
  have k30 : u14 (A (b + 2)) = some (.inr (2, [.ref (A (b + 3)), .ref (A (b + 5)), .ref (A (b + 7)), .ref (A (b + 9)), .ref (A (b + 11)), .ref (A (b + 13)), .int (cs 0 6 8), .int (cs 0 6 9), .int (cs 0 6 10), .int (cs 0 6 11), .int (cs 0 6 12)])) := hM15 2 (by omega)
  have k31 : u14 (A (b + 3)) = some (.inr (8, [.int 8, .ref (A (b + 4)), .int 1])) := by have h9 : u14 (A (b + 3)) = some (.inr (8, [.int 8, .ref (A (b + 4)), .int (cs 0 7 0)])) := hM15 3 (by omega); rw [hr0] at h9; exact h9
  have k32 : u14 (A (b + 4)) = some (.inl (cy 0, 8, .inl (cs 0 0))) := hM15 4 (by omega)
  have k33 : u14 (A (b + 13)) = some (.inr (5, [.ref (A (b + 14)), .int (cs 0 6 0), .int (cs 0 6 1), .int (cs 0 6 2), .int (cs 0 6 3), .int (cs 0 6 4), .int (cs 0 6 5), .int (cs 0 6 6), .int (cs 0 6 7)])) := hM15 13 (by omega)
  have k34 : u14 (A (b + 14)) = some (.inl (cy 0, 20, .inl (cs 0 5))) := hM15 14 (by omega)
  refine g_cI C0 G (g_runV C0 G (rest := []) (c_X4_store hfl (rst := ost) (rex := oex) (rln := oln) (gf := gy) (g0 := (cs 0 0)) (go := (cs 0 5)) (lm := (cs 0 6 0)) (lf := (cs 0 6 1)) (oc := (cs 0 6 2)) (bw := (cs 0 6 3)) (bb := (cs 0 6 4)) (bl := (cs 0 6 5)) (cd := (cs 0 6 6)) (hbg := (cs 0 6 7)) (rs := (cs 0 6 8)) (sk := (cs 0 6 9)) (ot := (cs 0 6 10)) (ch := (cs 0 6 11)) (nc := (cs 0 6 12)) ex k28 k29 k30 k31 k32 k33 k34 hbn hbn2 hb_ex) k28 rfl hY_X4_store mm_X8_282 mi_X4_store ml_X4_store ⟨(Nat.le_of_ble_eq_true rfl), (Nat.le_of_ble_eq_true rfl)⟩ rfl hl.1 rfl (Nat.le_of_ble_eq_true rfl) dX8_storeOvers_23 ⟨(Nat.le_of_ble_eq_true rfl), (Nat.le_of_ble_eq_true rfl)⟩) (kx_no rfl) (fun r37 u36 H locs hp35 G => ?_)
  obtain ⟨er38, k39, k40, fr41⟩ := hp35
  refine lv_topv (v := (X4_store_r1 bn)) er38 ?_
  have hM42 := MW_frN hM15 fr41 (fun y9 hy9 => by simp only [List.mem_cons, List.not_mem_nil, or_false] at hy9; rcases hy9 with q9 | q9; (rw [q9]; exact (MW_kind hM h_ro (by decide))); (rw [q9]; exact n_fo))
  exact g_iret C0 G hr dX8_storeOvers_26 (Nat.le_of_ble_eq_true rfl) (Nat.le_of_ble_eq_true rfl) (by exact ⟨rfl, k39, (by rw [(by rw [X8_storeOvers10_g0] : (X8_storeOvers10_g0 gy cs bn ex) = (X4_store_g2 gy (cs 0 0) (cs 0 5) (cs 0 6 2) ex bn))]; exact k40), hM42, (fun a9 e9 h7 h8 => fr41 _ _ (fun q => h7 (by simp only [List.mem_cons, List.not_mem_nil, or_false] at q ⊢; first | exact q | (rcases q with q | q <;> simp [q]) | omega)) (fr16 _ _ (by simp) (h8)))⟩)
def X8_storeOvers11_g0 (gy : Nat → UInt32) (cs : Nat → Nat → Nat → Int32) (bn : Nat) (ex : Int32) : Nat → UInt32 := (X4_store_g2 gy (cs 1 0) (cs 1 5) (cs 1 6 2) ex bn)
set_option maxRecDepth 100000 in
theorem c_X8_storeOvers11 {l : Launch} (hfl : l.stackTraces = false) {D : va_G} {cy : Nat → ClassId} {f : Hf} {sz : Nat} {x : Nat} {ro : Nat} {fo : Nat} {A : Nat → Nat} {b : Nat} {b2 : Nat} {lg : Nat} {lg_o : Nat} {tx : Nat} {rz : Nat} {xea : Int32} {xra : Int32} {xkr : Int32} {ost : Int32} {oex : Int32} {oln : Int32} {gy : Nat → UInt32} {q : Nat → Option Nat} {cm : Nat → Int32} {cs : Nat → Nat → Nat → Int32} {bn : Nat} (ex : Int32) (h_x : f x = some (.inr (10, [.ref (A (b + 0)), .ref (A (b2 + 0)), .ref lg, .ref lg_o, .ref tx, .ref rz, .ref ro, .int xea, .int xra, .int xkr]))) (h_ro : f ro = some (.inr (6, [.ref fo, .int ost, .int oex, .int oln]))) (h_fo : f fo = some (.inl (cy 2, 20, .inr (.inr (.inl gy))))) (hAj : ∀ i j : Nat, i ≠ j → A i ≠ A j) (hM : MW A b cy q cm cs f) (hQ : HQ A b q) (n_fo : fo ∉ MA A b) (v0 : ¬ (X8_isWithin_x1 1 0 1) = 0) (v1 : ¬ (X2_hasBegun_x2 (cm 0) (cm 4) 1) = 0) (hr0 : cs 1 7 0 = 1) (hbn : X3_begun_x0 (cs 1 6 2) (cs 1 6 7) = nI bn) (hbn2 : bn ≤ 20) (hb_ex : ex = 0 ∨ ex = 1) : hMet l yX8_storeOvers cX8_storeOvers 4 (some .int) { frames := 3, cells := 0, slots := 0, locals := 69 } D (hTy cy) f sz [.ref x, .int 1, .int 1, .int ex] (hQi (fun r u => r = (X4_store_r1 bn) ∧ u ro = some (.inr (6, [.ref fo, .int 1, .int ex, .int (nI bn)])) ∧ u fo = some (.inl (cy 2, 20, .inr (.inr (.inl (X8_storeOvers11_g0 gy cs bn ex))))) ∧ MW A b cy q cm cs u ∧ hFrL f u [ro, fo]) D f sz) hNo := by
  refine h_enter (by decide) hfl (Nat.le_of_ble_eq_true rfl) ?_
  intro p9 e9 s9 m9 b9 t9 c9 hsz C0 hr hnm G ls hl
  have hx := C0.1.1
  have hb := C0.1.2.1
  have hl : lv_has ls 4 [(0, .ref x), (1, .int 1), (2, .int 1), (3, .int ex)] := hl
  refine lv_iload_n hx hb dX8_storeOvers_0 rfl (lv_at hl 1 rfl) ?_
  refine g_cV C0 G (g_runS C0 G (rest := []) (c_X8_demandRowO hfl 1  v0) hY_X8_demandRow mm_X8_275 ms_X8_demandRow ⟨(Nat.le_of_ble_eq_true rfl), (Nat.le_of_ble_eq_true rfl)⟩ rfl hl.1 rfl (Nat.le_of_ble_eq_true rfl) dX8_storeOvers_1 ⟨(Nat.le_of_ble_eq_true rfl), (Nat.le_of_ble_eq_true rfl)⟩) (kx_no rfl) (fun u12 H locs hp11 G => ?_)
  have eu12 := hp11
  rw [eu12] at G
  refine lv_aload_n hx hb dX8_storeOvers_4 rfl (lv_at hl 0 rfl) ?_
  refine lv_iload_n hx hb dX8_storeOvers_5 rfl (lv_at hl 2 rfl) ?_
  refine g_cV C0 G (g_runV C0 G (rest := []) (c_X8_demandInningsO hfl (A := A) (b := b) (b2 := b2) (xea := xea) (xra := xra) (xkr := xkr) (cm := cm) (cs := cs) 1 h_x hAj hM hQ v1) h_x rfl hY_X8_demandInnings mm_X8_200 mi_X8_demandInnings ml_X8_demandInnings ⟨(Nat.le_of_ble_eq_true rfl), (Nat.le_of_ble_eq_true rfl)⟩ rfl hl.1 rfl (Nat.le_of_ble_eq_true rfl) dX8_storeOvers_6 ⟨(Nat.le_of_ble_eq_true rfl), (Nat.le_of_ble_eq_true rfl)⟩) (kx_no rfl) (fun u14 H locs hp13 G => ?_)
  obtain ⟨hM15, fr16⟩ := hp13
  refine lv_aload_n hx hb dX8_storeOvers_9 rfl (lv_at hl 0 rfl) ?_
  refine lv_iload_n hx hb dX8_storeOvers_10 rfl (lv_at hl 1 rfl) ?_
  have k18 : u14 x = some (.inr (10, [.ref (A (b + 0)), .ref (A (b2 + 0)), .ref lg, .ref lg_o, .ref tx, .ref rz, .ref ro, .int xea, .int xra, .int xkr])) := fr16 _ _ (by simp) h_x
  refine g_cR C0 G (g_runV C0 G (rest := []) (c_X8_rowAt1 hfl (A := A) (b := b) (b2 := b2) (xea := xea) (xra := xra) (xkr := xkr) k18) k18 rfl hY_X8_rowAt mm_X8_278 mi_X8_rowAt ml_X8_rowAt ⟨(Nat.le_of_ble_eq_true rfl), (Nat.le_of_ble_eq_true rfl)⟩ rfl hl.1 rfl (Nat.le_of_ble_eq_true rfl) dX8_storeOvers_11 ⟨(Nat.le_of_ble_eq_true rfl), (Nat.le_of_ble_eq_true rfl)⟩) (kx_no rfl) (fun a21 u20 H locs hp19 G => ?_)
  obtain ⟨er22, eu20⟩ := hp19
  have ser22 := er22.symm
  subst ser22
  rw [eu20] at G
  refine lv_aload_n hx hb dX8_storeOvers_14 rfl (lv_at hl 0 rfl) ?_
  refine g_get C0 G k18 rfl hiX8 0 (by decide) mf_X8_10 rfl dX8_storeOvers_15 ?_
  refine lv_iload_n hx hb dX8_storeOvers_18 rfl (lv_at hl 2 rfl) ?_
  have k23 : u14 (A (b + 0)) = some (.inr (4, [.ref (A (b + 1)), .int (cm 0), .int (cm 1), .int (cm 2), .int (cm 3), .int (cm 4)])) := hM15 0 (by omega)
  have k24 : u14 (A (b + 1)) = some (.inl (cy 3, 4, .inr (.inr (.inr (.inr q))))) := hM15 1 (by omega)
  refine g_cR C0 G (g_runV C0 G (rest := [.ref ro]) (c_X2_at1 hfl (A := A) (b := b) (ex := (cm 0)) (ov := (cm 1)) (ie := (cm 2)) (fi := (cm 3)) (nu := (cm 4)) (q := q) k23 k24 hAj hQ.1 hQ.2.1 hQ.2.2.1 hQ.2.2.2) k23 rfl hY_X2_at mm_X8_206 mi_X2_at ml_X2_at ⟨(Nat.le_of_ble_eq_true rfl), (Nat.le_of_ble_eq_true rfl)⟩ rfl hl.1 rfl (Nat.le_of_ble_eq_true rfl) dX8_storeOvers_19 ⟨(Nat.le_of_ble_eq_true rfl), (Nat.le_of_ble_eq_true rfl)⟩) (kx_no rfl) (fun a27 u26 H locs hp25 G => ?_)
  obtain ⟨zr, eu26⟩ := hp25
  replace zr := Eq.symm zr
  subst zr
  rw [eu26] at G
  refine lv_iload_n hx hb dX8_storeOvers_22 rfl (lv_at hl 3 rfl) ?_
  have k28 : u14 ro = some (.inr (6, [.ref fo, .int ost, .int oex, .int oln])) := fr16 _ _ (by simp) h_ro
  have k29 : u14 fo = some (.inl (cy 2, 20, .inr (.inr (.inl gy)))) := fr16 _ _ (by simp) h_fo
  have k30 : u14 (A (b + 15)) = some (.inr (2, [.ref (A (b + 16)), .ref (A (b + 18)), .ref (A (b + 20)), .ref (A (b + 22)), .ref (A (b + 24)), .ref (A (b + 26)), .int (cs 1 6 8), .int (cs 1 6 9), .int (cs 1 6 10), .int (cs 1 6 11), .int (cs 1 6 12)])) := hM15 15 (by omega)
  have k31 : u14 (A (b + 16)) = some (.inr (8, [.int 8, .ref (A (b + 17)), .int 1])) := by have h9 : u14 (A (b + 16)) = some (.inr (8, [.int 8, .ref (A (b + 17)), .int (cs 1 7 0)])) := hM15 16 (by omega); rw [hr0] at h9; exact h9
  have k32 : u14 (A (b + 17)) = some (.inl (cy 0, 8, .inl (cs 1 0))) := hM15 17 (by omega)
  have k33 : u14 (A (b + 26)) = some (.inr (5, [.ref (A (b + 27)), .int (cs 1 6 0), .int (cs 1 6 1), .int (cs 1 6 2), .int (cs 1 6 3), .int (cs 1 6 4), .int (cs 1 6 5), .int (cs 1 6 6), .int (cs 1 6 7)])) := hM15 26 (by omega)
  have k34 : u14 (A (b + 27)) = some (.inl (cy 0, 20, .inl (cs 1 5))) := hM15 27 (by omega)
  refine g_cI C0 G (g_runV C0 G (rest := []) (c_X4_store hfl (rst := ost) (rex := oex) (rln := oln) (gf := gy) (g0 := (cs 1 0)) (go := (cs 1 5)) (lm := (cs 1 6 0)) (lf := (cs 1 6 1)) (oc := (cs 1 6 2)) (bw := (cs 1 6 3)) (bb := (cs 1 6 4)) (bl := (cs 1 6 5)) (cd := (cs 1 6 6)) (hbg := (cs 1 6 7)) (rs := (cs 1 6 8)) (sk := (cs 1 6 9)) (ot := (cs 1 6 10)) (ch := (cs 1 6 11)) (nc := (cs 1 6 12)) ex k28 k29 k30 k31 k32 k33 k34 hbn hbn2 hb_ex) k28 rfl hY_X4_store mm_X8_282 mi_X4_store ml_X4_store ⟨(Nat.le_of_ble_eq_true rfl), (Nat.le_of_ble_eq_true rfl)⟩ rfl hl.1 rfl (Nat.le_of_ble_eq_true rfl) dX8_storeOvers_23 ⟨(Nat.le_of_ble_eq_true rfl), (Nat.le_of_ble_eq_true rfl)⟩) (kx_no rfl) (fun r37 u36 H locs hp35 G => ?_)
  obtain ⟨er38, k39, k40, fr41⟩ := hp35
  refine lv_topv (v := (X4_store_r1 bn)) er38 ?_
  have hM42 := MW_frN hM15 fr41 (fun y9 hy9 => by simp only [List.mem_cons, List.not_mem_nil, or_false] at hy9; rcases hy9 with q9 | q9; (rw [q9]; exact (MW_kind hM h_ro (by decide))); (rw [q9]; exact n_fo))
  exact g_iret C0 G hr dX8_storeOvers_26 (Nat.le_of_ble_eq_true rfl) (Nat.le_of_ble_eq_true rfl) (by exact ⟨rfl, k39, (by rw [(by rw [X8_storeOvers11_g0] : (X8_storeOvers11_g0 gy cs bn ex) = (X4_store_g2 gy (cs 1 0) (cs 1 5) (cs 1 6 2) ex bn))]; exact k40), hM42, (fun a9 e9 h7 h8 => fr41 _ _ (fun q => h7 (by simp only [List.mem_cons, List.not_mem_nil, or_false] at q ⊢; first | exact q | (rcases q with q | q <;> simp [q]) | omega)) (fr16 _ _ (by simp) (h8)))⟩)
def X8_storeOvers12_g0 (gy : Nat → UInt32) (cs : Nat → Nat → Nat → Int32) (bn : Nat) (ex : Int32) : Nat → UInt32 := (X4_store_g2 gy (cs 2 0) (cs 2 5) (cs 2 6 2) ex bn)
set_option maxRecDepth 100000 in
theorem c_X8_storeOvers12 {l : Launch} (hfl : l.stackTraces = false) {D : va_G} {cy : Nat → ClassId} {f : Hf} {sz : Nat} {x : Nat} {ro : Nat} {fo : Nat} {A : Nat → Nat} {b : Nat} {b2 : Nat} {lg : Nat} {lg_o : Nat} {tx : Nat} {rz : Nat} {xea : Int32} {xra : Int32} {xkr : Int32} {ost : Int32} {oex : Int32} {oln : Int32} {gy : Nat → UInt32} {q : Nat → Option Nat} {cm : Nat → Int32} {cs : Nat → Nat → Nat → Int32} {bn : Nat} (ex : Int32) (h_x : f x = some (.inr (10, [.ref (A (b + 0)), .ref (A (b2 + 0)), .ref lg, .ref lg_o, .ref tx, .ref rz, .ref ro, .int xea, .int xra, .int xkr]))) (h_ro : f ro = some (.inr (6, [.ref fo, .int ost, .int oex, .int oln]))) (h_fo : f fo = some (.inl (cy 2, 20, .inr (.inr (.inl gy))))) (hAj : ∀ i j : Nat, i ≠ j → A i ≠ A j) (hM : MW A b cy q cm cs f) (hQ : HQ A b q) (n_fo : fo ∉ MA A b) (v0 : ¬ (X8_isWithin_x1 1 0 1) = 0) (v1 : ¬ (X2_hasBegun_x2 (cm 0) (cm 4) 2) = 0) (hr0 : cs 2 7 0 = 1) (hbn : X3_begun_x0 (cs 2 6 2) (cs 2 6 7) = nI bn) (hbn2 : bn ≤ 20) (hb_ex : ex = 0 ∨ ex = 1) : hMet l yX8_storeOvers cX8_storeOvers 4 (some .int) { frames := 3, cells := 0, slots := 0, locals := 69 } D (hTy cy) f sz [.ref x, .int 1, .int 2, .int ex] (hQi (fun r u => r = (X4_store_r1 bn) ∧ u ro = some (.inr (6, [.ref fo, .int 1, .int ex, .int (nI bn)])) ∧ u fo = some (.inl (cy 2, 20, .inr (.inr (.inl (X8_storeOvers12_g0 gy cs bn ex))))) ∧ MW A b cy q cm cs u ∧ hFrL f u [ro, fo]) D f sz) hNo := by
  refine h_enter (by decide) hfl (Nat.le_of_ble_eq_true rfl) ?_
  intro p9 e9 s9 m9 b9 t9 c9 hsz C0 hr hnm G ls hl
  have hx := C0.1.1
  have hb := C0.1.2.1
  have hl : lv_has ls 4 [(0, .ref x), (1, .int 1), (2, .int 2), (3, .int ex)] := hl
  refine lv_iload_n hx hb dX8_storeOvers_0 rfl (lv_at hl 1 rfl) ?_
  refine g_cV C0 G (g_runS C0 G (rest := []) (c_X8_demandRowO hfl 1  v0) hY_X8_demandRow mm_X8_275 ms_X8_demandRow ⟨(Nat.le_of_ble_eq_true rfl), (Nat.le_of_ble_eq_true rfl)⟩ rfl hl.1 rfl (Nat.le_of_ble_eq_true rfl) dX8_storeOvers_1 ⟨(Nat.le_of_ble_eq_true rfl), (Nat.le_of_ble_eq_true rfl)⟩) (kx_no rfl) (fun u12 H locs hp11 G => ?_)
  have eu12 := hp11
  rw [eu12] at G
  refine lv_aload_n hx hb dX8_storeOvers_4 rfl (lv_at hl 0 rfl) ?_
  refine lv_iload_n hx hb dX8_storeOvers_5 rfl (lv_at hl 2 rfl) ?_
  refine g_cV C0 G (g_runV C0 G (rest := []) (c_X8_demandInningsO hfl (A := A) (b := b) (b2 := b2) (xea := xea) (xra := xra) (xkr := xkr) (cm := cm) (cs := cs) 2 h_x hAj hM hQ v1) h_x rfl hY_X8_demandInnings mm_X8_200 mi_X8_demandInnings ml_X8_demandInnings ⟨(Nat.le_of_ble_eq_true rfl), (Nat.le_of_ble_eq_true rfl)⟩ rfl hl.1 rfl (Nat.le_of_ble_eq_true rfl) dX8_storeOvers_6 ⟨(Nat.le_of_ble_eq_true rfl), (Nat.le_of_ble_eq_true rfl)⟩) (kx_no rfl) (fun u14 H locs hp13 G => ?_)
  obtain ⟨hM15, fr16⟩ := hp13
  refine lv_aload_n hx hb dX8_storeOvers_9 rfl (lv_at hl 0 rfl) ?_
  refine lv_iload_n hx hb dX8_storeOvers_10 rfl (lv_at hl 1 rfl) ?_
  have k18 : u14 x = some (.inr (10, [.ref (A (b + 0)), .ref (A (b2 + 0)), .ref lg, .ref lg_o, .ref tx, .ref rz, .ref ro, .int xea, .int xra, .int xkr])) := fr16 _ _ (by simp) h_x
  refine g_cR C0 G (g_runV C0 G (rest := []) (c_X8_rowAt1 hfl (A := A) (b := b) (b2 := b2) (xea := xea) (xra := xra) (xkr := xkr) k18) k18 rfl hY_X8_rowAt mm_X8_278 mi_X8_rowAt ml_X8_rowAt ⟨(Nat.le_of_ble_eq_true rfl), (Nat.le_of_ble_eq_true rfl)⟩ rfl hl.1 rfl (Nat.le_of_ble_eq_true rfl) dX8_storeOvers_11 ⟨(Nat.le_of_ble_eq_true rfl), (Nat.le_of_ble_eq_true rfl)⟩) (kx_no rfl) (fun a21 u20 H locs hp19 G => ?_)
  obtain ⟨er22, eu20⟩ := hp19
  have ser22 := er22.symm
  subst ser22
  rw [eu20] at G
  refine lv_aload_n hx hb dX8_storeOvers_14 rfl (lv_at hl 0 rfl) ?_
  refine g_get C0 G k18 rfl hiX8 0 (by decide) mf_X8_10 rfl dX8_storeOvers_15 ?_
  refine lv_iload_n hx hb dX8_storeOvers_18 rfl (lv_at hl 2 rfl) ?_
  have k23 : u14 (A (b + 0)) = some (.inr (4, [.ref (A (b + 1)), .int (cm 0), .int (cm 1), .int (cm 2), .int (cm 3), .int (cm 4)])) := hM15 0 (by omega)
  have k24 : u14 (A (b + 1)) = some (.inl (cy 3, 4, .inr (.inr (.inr (.inr q))))) := hM15 1 (by omega)
  refine g_cR C0 G (g_runV C0 G (rest := [.ref ro]) (c_X2_at2 hfl (A := A) (b := b) (ex := (cm 0)) (ov := (cm 1)) (ie := (cm 2)) (fi := (cm 3)) (nu := (cm 4)) (q := q) k23 k24 hAj hQ.1 hQ.2.1 hQ.2.2.1 hQ.2.2.2) k23 rfl hY_X2_at mm_X8_206 mi_X2_at ml_X2_at ⟨(Nat.le_of_ble_eq_true rfl), (Nat.le_of_ble_eq_true rfl)⟩ rfl hl.1 rfl (Nat.le_of_ble_eq_true rfl) dX8_storeOvers_19 ⟨(Nat.le_of_ble_eq_true rfl), (Nat.le_of_ble_eq_true rfl)⟩) (kx_no rfl) (fun a27 u26 H locs hp25 G => ?_)
  obtain ⟨zr, eu26⟩ := hp25
  replace zr := Eq.symm zr
  subst zr
  rw [eu26] at G
  refine lv_iload_n hx hb dX8_storeOvers_22 rfl (lv_at hl 3 rfl) ?_
  have k28 : u14 ro = some (.inr (6, [.ref fo, .int ost, .int oex, .int oln])) := fr16 _ _ (by simp) h_ro
  have k29 : u14 fo = some (.inl (cy 2, 20, .inr (.inr (.inl gy)))) := fr16 _ _ (by simp) h_fo
  have k30 : u14 (A (b + 28)) = some (.inr (2, [.ref (A (b + 29)), .ref (A (b + 31)), .ref (A (b + 33)), .ref (A (b + 35)), .ref (A (b + 37)), .ref (A (b + 39)), .int (cs 2 6 8), .int (cs 2 6 9), .int (cs 2 6 10), .int (cs 2 6 11), .int (cs 2 6 12)])) := hM15 28 (by omega)
  have k31 : u14 (A (b + 29)) = some (.inr (8, [.int 8, .ref (A (b + 30)), .int 1])) := by have h9 : u14 (A (b + 29)) = some (.inr (8, [.int 8, .ref (A (b + 30)), .int (cs 2 7 0)])) := hM15 29 (by omega); rw [hr0] at h9; exact h9
  have k32 : u14 (A (b + 30)) = some (.inl (cy 0, 8, .inl (cs 2 0))) := hM15 30 (by omega)
  have k33 : u14 (A (b + 39)) = some (.inr (5, [.ref (A (b + 40)), .int (cs 2 6 0), .int (cs 2 6 1), .int (cs 2 6 2), .int (cs 2 6 3), .int (cs 2 6 4), .int (cs 2 6 5), .int (cs 2 6 6), .int (cs 2 6 7)])) := hM15 39 (by omega)
  have k34 : u14 (A (b + 40)) = some (.inl (cy 0, 20, .inl (cs 2 5))) := hM15 40 (by omega)
  refine g_cI C0 G (g_runV C0 G (rest := []) (c_X4_store hfl (rst := ost) (rex := oex) (rln := oln) (gf := gy) (g0 := (cs 2 0)) (go := (cs 2 5)) (lm := (cs 2 6 0)) (lf := (cs 2 6 1)) (oc := (cs 2 6 2)) (bw := (cs 2 6 3)) (bb := (cs 2 6 4)) (bl := (cs 2 6 5)) (cd := (cs 2 6 6)) (hbg := (cs 2 6 7)) (rs := (cs 2 6 8)) (sk := (cs 2 6 9)) (ot := (cs 2 6 10)) (ch := (cs 2 6 11)) (nc := (cs 2 6 12)) ex k28 k29 k30 k31 k32 k33 k34 hbn hbn2 hb_ex) k28 rfl hY_X4_store mm_X8_282 mi_X4_store ml_X4_store ⟨(Nat.le_of_ble_eq_true rfl), (Nat.le_of_ble_eq_true rfl)⟩ rfl hl.1 rfl (Nat.le_of_ble_eq_true rfl) dX8_storeOvers_23 ⟨(Nat.le_of_ble_eq_true rfl), (Nat.le_of_ble_eq_true rfl)⟩) (kx_no rfl) (fun r37 u36 H locs hp35 G => ?_)
  obtain ⟨er38, k39, k40, fr41⟩ := hp35
  refine lv_topv (v := (X4_store_r1 bn)) er38 ?_
  have hM42 := MW_frN hM15 fr41 (fun y9 hy9 => by simp only [List.mem_cons, List.not_mem_nil, or_false] at hy9; rcases hy9 with q9 | q9; (rw [q9]; exact (MW_kind hM h_ro (by decide))); (rw [q9]; exact n_fo))
  exact g_iret C0 G hr dX8_storeOvers_26 (Nat.le_of_ble_eq_true rfl) (Nat.le_of_ble_eq_true rfl) (by exact ⟨rfl, k39, (by rw [(by rw [X8_storeOvers12_g0] : (X8_storeOvers12_g0 gy cs bn ex) = (X4_store_g2 gy (cs 2 0) (cs 2 5) (cs 2 6 2) ex bn))]; exact k40), hM42, (fun a9 e9 h7 h8 => fr41 _ _ (fun q => h7 (by simp only [List.mem_cons, List.not_mem_nil, or_false] at q ⊢; first | exact q | (rcases q with q | q <;> simp [q]) | omega)) (fr16 _ _ (by simp) (h8)))⟩)
def X8_storeOvers13_g0 (gy : Nat → UInt32) (cs : Nat → Nat → Nat → Int32) (bn : Nat) (ex : Int32) : Nat → UInt32 := (X4_store_g2 gy (cs 3 0) (cs 3 5) (cs 3 6 2) ex bn)
set_option maxRecDepth 100000 in
theorem c_X8_storeOvers13 {l : Launch} (hfl : l.stackTraces = false) {D : va_G} {cy : Nat → ClassId} {f : Hf} {sz : Nat} {x : Nat} {ro : Nat} {fo : Nat} {A : Nat → Nat} {b : Nat} {b2 : Nat} {lg : Nat} {lg_o : Nat} {tx : Nat} {rz : Nat} {xea : Int32} {xra : Int32} {xkr : Int32} {ost : Int32} {oex : Int32} {oln : Int32} {gy : Nat → UInt32} {q : Nat → Option Nat} {cm : Nat → Int32} {cs : Nat → Nat → Nat → Int32} {bn : Nat} (ex : Int32) (h_x : f x = some (.inr (10, [.ref (A (b + 0)), .ref (A (b2 + 0)), .ref lg, .ref lg_o, .ref tx, .ref rz, .ref ro, .int xea, .int xra, .int xkr]))) (h_ro : f ro = some (.inr (6, [.ref fo, .int ost, .int oex, .int oln]))) (h_fo : f fo = some (.inl (cy 2, 20, .inr (.inr (.inl gy))))) (hAj : ∀ i j : Nat, i ≠ j → A i ≠ A j) (hM : MW A b cy q cm cs f) (hQ : HQ A b q) (n_fo : fo ∉ MA A b) (v0 : ¬ (X8_isWithin_x1 1 0 1) = 0) (v1 : ¬ (X2_hasBegun_x2 (cm 0) (cm 4) 3) = 0) (hr0 : cs 3 7 0 = 1) (hbn : X3_begun_x0 (cs 3 6 2) (cs 3 6 7) = nI bn) (hbn2 : bn ≤ 20) (hb_ex : ex = 0 ∨ ex = 1) : hMet l yX8_storeOvers cX8_storeOvers 4 (some .int) { frames := 3, cells := 0, slots := 0, locals := 69 } D (hTy cy) f sz [.ref x, .int 1, .int 3, .int ex] (hQi (fun r u => r = (X4_store_r1 bn) ∧ u ro = some (.inr (6, [.ref fo, .int 1, .int ex, .int (nI bn)])) ∧ u fo = some (.inl (cy 2, 20, .inr (.inr (.inl (X8_storeOvers13_g0 gy cs bn ex))))) ∧ MW A b cy q cm cs u ∧ hFrL f u [ro, fo]) D f sz) hNo := by
  refine h_enter (by decide) hfl (Nat.le_of_ble_eq_true rfl) ?_
  intro p9 e9 s9 m9 b9 t9 c9 hsz C0 hr hnm G ls hl
  have hx := C0.1.1
  have hb := C0.1.2.1
  have hl : lv_has ls 4 [(0, .ref x), (1, .int 1), (2, .int 3), (3, .int ex)] := hl
  refine lv_iload_n hx hb dX8_storeOvers_0 rfl (lv_at hl 1 rfl) ?_
  refine g_cV C0 G (g_runS C0 G (rest := []) (c_X8_demandRowO hfl 1  v0) hY_X8_demandRow mm_X8_275 ms_X8_demandRow ⟨(Nat.le_of_ble_eq_true rfl), (Nat.le_of_ble_eq_true rfl)⟩ rfl hl.1 rfl (Nat.le_of_ble_eq_true rfl) dX8_storeOvers_1 ⟨(Nat.le_of_ble_eq_true rfl), (Nat.le_of_ble_eq_true rfl)⟩) (kx_no rfl) (fun u12 H locs hp11 G => ?_)
  have eu12 := hp11
  rw [eu12] at G
  refine lv_aload_n hx hb dX8_storeOvers_4 rfl (lv_at hl 0 rfl) ?_
  refine lv_iload_n hx hb dX8_storeOvers_5 rfl (lv_at hl 2 rfl) ?_
  refine g_cV C0 G (g_runV C0 G (rest := []) (c_X8_demandInningsO hfl (A := A) (b := b) (b2 := b2) (xea := xea) (xra := xra) (xkr := xkr) (cm := cm) (cs := cs) 3 h_x hAj hM hQ v1) h_x rfl hY_X8_demandInnings mm_X8_200 mi_X8_demandInnings ml_X8_demandInnings ⟨(Nat.le_of_ble_eq_true rfl), (Nat.le_of_ble_eq_true rfl)⟩ rfl hl.1 rfl (Nat.le_of_ble_eq_true rfl) dX8_storeOvers_6 ⟨(Nat.le_of_ble_eq_true rfl), (Nat.le_of_ble_eq_true rfl)⟩) (kx_no rfl) (fun u14 H locs hp13 G => ?_)
  obtain ⟨hM15, fr16⟩ := hp13
  refine lv_aload_n hx hb dX8_storeOvers_9 rfl (lv_at hl 0 rfl) ?_
  refine lv_iload_n hx hb dX8_storeOvers_10 rfl (lv_at hl 1 rfl) ?_
  have k18 : u14 x = some (.inr (10, [.ref (A (b + 0)), .ref (A (b2 + 0)), .ref lg, .ref lg_o, .ref tx, .ref rz, .ref ro, .int xea, .int xra, .int xkr])) := fr16 _ _ (by simp) h_x
  refine g_cR C0 G (g_runV C0 G (rest := []) (c_X8_rowAt1 hfl (A := A) (b := b) (b2 := b2) (xea := xea) (xra := xra) (xkr := xkr) k18) k18 rfl hY_X8_rowAt mm_X8_278 mi_X8_rowAt ml_X8_rowAt ⟨(Nat.le_of_ble_eq_true rfl), (Nat.le_of_ble_eq_true rfl)⟩ rfl hl.1 rfl (Nat.le_of_ble_eq_true rfl) dX8_storeOvers_11 ⟨(Nat.le_of_ble_eq_true rfl), (Nat.le_of_ble_eq_true rfl)⟩) (kx_no rfl) (fun a21 u20 H locs hp19 G => ?_)
  obtain ⟨er22, eu20⟩ := hp19
  have ser22 := er22.symm
  subst ser22
  rw [eu20] at G
  refine lv_aload_n hx hb dX8_storeOvers_14 rfl (lv_at hl 0 rfl) ?_
  refine g_get C0 G k18 rfl hiX8 0 (by decide) mf_X8_10 rfl dX8_storeOvers_15 ?_
  refine lv_iload_n hx hb dX8_storeOvers_18 rfl (lv_at hl 2 rfl) ?_
  have k23 : u14 (A (b + 0)) = some (.inr (4, [.ref (A (b + 1)), .int (cm 0), .int (cm 1), .int (cm 2), .int (cm 3), .int (cm 4)])) := hM15 0 (by omega)
  have k24 : u14 (A (b + 1)) = some (.inl (cy 3, 4, .inr (.inr (.inr (.inr q))))) := hM15 1 (by omega)
  refine g_cR C0 G (g_runV C0 G (rest := [.ref ro]) (c_X2_at3 hfl (A := A) (b := b) (ex := (cm 0)) (ov := (cm 1)) (ie := (cm 2)) (fi := (cm 3)) (nu := (cm 4)) (q := q) k23 k24 hAj hQ.1 hQ.2.1 hQ.2.2.1 hQ.2.2.2) k23 rfl hY_X2_at mm_X8_206 mi_X2_at ml_X2_at ⟨(Nat.le_of_ble_eq_true rfl), (Nat.le_of_ble_eq_true rfl)⟩ rfl hl.1 rfl (Nat.le_of_ble_eq_true rfl) dX8_storeOvers_19 ⟨(Nat.le_of_ble_eq_true rfl), (Nat.le_of_ble_eq_true rfl)⟩) (kx_no rfl) (fun a27 u26 H locs hp25 G => ?_)
  obtain ⟨zr, eu26⟩ := hp25
  replace zr := Eq.symm zr
  subst zr
  rw [eu26] at G
  refine lv_iload_n hx hb dX8_storeOvers_22 rfl (lv_at hl 3 rfl) ?_
  have k28 : u14 ro = some (.inr (6, [.ref fo, .int ost, .int oex, .int oln])) := fr16 _ _ (by simp) h_ro
  have k29 : u14 fo = some (.inl (cy 2, 20, .inr (.inr (.inl gy)))) := fr16 _ _ (by simp) h_fo
  have k30 : u14 (A (b + 41)) = some (.inr (2, [.ref (A (b + 42)), .ref (A (b + 44)), .ref (A (b + 46)), .ref (A (b + 48)), .ref (A (b + 50)), .ref (A (b + 52)), .int (cs 3 6 8), .int (cs 3 6 9), .int (cs 3 6 10), .int (cs 3 6 11), .int (cs 3 6 12)])) := hM15 41 (by omega)
  have k31 : u14 (A (b + 42)) = some (.inr (8, [.int 8, .ref (A (b + 43)), .int 1])) := by have h9 : u14 (A (b + 42)) = some (.inr (8, [.int 8, .ref (A (b + 43)), .int (cs 3 7 0)])) := hM15 42 (by omega); rw [hr0] at h9; exact h9
  have k32 : u14 (A (b + 43)) = some (.inl (cy 0, 8, .inl (cs 3 0))) := hM15 43 (by omega)
  have k33 : u14 (A (b + 52)) = some (.inr (5, [.ref (A (b + 53)), .int (cs 3 6 0), .int (cs 3 6 1), .int (cs 3 6 2), .int (cs 3 6 3), .int (cs 3 6 4), .int (cs 3 6 5), .int (cs 3 6 6), .int (cs 3 6 7)])) := hM15 52 (by omega)
  have k34 : u14 (A (b + 53)) = some (.inl (cy 0, 20, .inl (cs 3 5))) := hM15 53 (by omega)
  refine g_cI C0 G (g_runV C0 G (rest := []) (c_X4_store hfl (rst := ost) (rex := oex) (rln := oln) (gf := gy) (g0 := (cs 3 0)) (go := (cs 3 5)) (lm := (cs 3 6 0)) (lf := (cs 3 6 1)) (oc := (cs 3 6 2)) (bw := (cs 3 6 3)) (bb := (cs 3 6 4)) (bl := (cs 3 6 5)) (cd := (cs 3 6 6)) (hbg := (cs 3 6 7)) (rs := (cs 3 6 8)) (sk := (cs 3 6 9)) (ot := (cs 3 6 10)) (ch := (cs 3 6 11)) (nc := (cs 3 6 12)) ex k28 k29 k30 k31 k32 k33 k34 hbn hbn2 hb_ex) k28 rfl hY_X4_store mm_X8_282 mi_X4_store ml_X4_store ⟨(Nat.le_of_ble_eq_true rfl), (Nat.le_of_ble_eq_true rfl)⟩ rfl hl.1 rfl (Nat.le_of_ble_eq_true rfl) dX8_storeOvers_23 ⟨(Nat.le_of_ble_eq_true rfl), (Nat.le_of_ble_eq_true rfl)⟩) (kx_no rfl) (fun r37 u36 H locs hp35 G => ?_)
  obtain ⟨er38, k39, k40, fr41⟩ := hp35
  refine lv_topv (v := (X4_store_r1 bn)) er38 ?_
  have hM42 := MW_frN hM15 fr41 (fun y9 hy9 => by simp only [List.mem_cons, List.not_mem_nil, or_false] at hy9; rcases hy9 with q9 | q9; (rw [q9]; exact (MW_kind hM h_ro (by decide))); (rw [q9]; exact n_fo))
  exact g_iret C0 G hr dX8_storeOvers_26 (Nat.le_of_ble_eq_true rfl) (Nat.le_of_ble_eq_true rfl) (by exact ⟨rfl, k39, (by rw [(by rw [X8_storeOvers13_g0] : (X8_storeOvers13_g0 gy cs bn ex) = (X4_store_g2 gy (cs 3 0) (cs 3 5) (cs 3 6 2) ex bn))]; exact k40), hM42, (fun a9 e9 h7 h8 => fr41 _ _ (fun q => h7 (by simp only [List.mem_cons, List.not_mem_nil, or_false] at q ⊢; first | exact q | (rcases q with q | q <;> simp [q]) | omega)) (fr16 _ _ (by simp) (h8)))⟩)
set_option maxRecDepth 100000 in
theorem c_X8_copyOversB {l : Launch} (hfl : l.stackTraces = false) {D : va_G} {cy : Nat → ClassId} {f : Hf} {sz : Nat} {x : Nat} {A : Nat → Nat} {b : Nat} {b2 : Nat} {lg : Nat} {lg_o : Nat} {tx : Nat} {rz : Nat} {ro : Nat} {xea : Int32} {xra : Int32} {xkr : Int32} (row : Int32) (cnt : Int32) (h_x : f x = some (.inr (10, [.ref (A (b + 0)), .ref (A (b2 + 0)), .ref lg, .ref lg_o, .ref tx, .ref rz, .ref ro, .int xea, .int xra, .int xkr]))) (v0 : (X8_isWithin_x1 row 0 1) = 0) : hMet l yX8_copyOvers cX8_copyOvers 5 (some .boolean) { frames := 7, cells := 1, slots := 6, locals := 102 } D (hTy cy) f sz [.ref x, .int row, .int cnt] (hQi (fun r u => False) D f sz) (fun E u => E = "java/lang/IndexOutOfBoundsException" ∧ u = f) := by
  refine h_enter (by decide) hfl (Nat.le_of_ble_eq_true rfl) ?_
  intro p9 e9 s9 m9 b9 t9 c9 hsz C0 hr hnm G ls hl
  have hx := C0.1.1
  have hb := C0.1.2.1
  have hl : lv_has ls 5 [(0, .ref x), (1, .int row), (2, .int cnt)] := hl
  refine lv_iload_n hx hb dX8_copyOvers_0 rfl (lv_at hl 1 rfl) ?_
  exact g_cV C0 G (g_runS C0 G (rest := []) (c_X8_demandRowN hfl row  v0) hY_X8_demandRow mm_X8_275 ms_X8_demandRow ⟨(Nat.le_of_ble_eq_true rfl), (Nat.le_of_ble_eq_true rfl)⟩ rfl hl.1 rfl (Nat.le_of_ble_eq_true rfl) dX8_copyOvers_1 ⟨(Nat.le_of_ble_eq_true rfl), (Nat.le_of_ble_eq_true rfl)⟩) (kx_out C0 (Nat.le_of_ble_eq_true rfl) (Nat.le_of_ble_eq_true rfl) (fun E9 u9 h9 => by
      obtain ⟨hE9, eu12⟩ := h9
      have fr11 : hFrL f u9 [] := fun a9 e9 h7 h8 => by rw [eu12]; exact h8
      exact ⟨hE9, eu12⟩)) (fun _ _ _ h9 _ => (h9).elim)
set_option maxRecDepth 100000 in
theorem c_X8_storedOversB {l : Launch} (hfl : l.stackTraces = false) {D : va_G} {cy : Nat → ClassId} {f : Hf} {sz : Nat} {x : Nat} {A : Nat → Nat} {b : Nat} {b2 : Nat} {lg : Nat} {lg_o : Nat} {tx : Nat} {rz : Nat} {ro : Nat} {xea : Int32} {xra : Int32} {xkr : Int32} (row : Int32) (ix : Int32) (h_x : f x = some (.inr (10, [.ref (A (b + 0)), .ref (A (b2 + 0)), .ref lg, .ref lg_o, .ref tx, .ref rz, .ref ro, .int xea, .int xra, .int xkr]))) (v0 : (X8_isWithin_x1 row 0 1) = 0) : hMet l yX8_storedOvers cX8_storedOvers 3 (some .float) { frames := 7, cells := 1, slots := 6, locals := 102 } D (hTy cy) f sz [.ref x, .int row, .int ix] (hQf (fun r u => False) D f sz) (fun E u => E = "java/lang/IndexOutOfBoundsException" ∧ u = f) := by
  refine h_enter (by decide) hfl (Nat.le_of_ble_eq_true rfl) ?_
  intro p9 e9 s9 m9 b9 t9 c9 hsz C0 hr hnm G ls hl
  have hx := C0.1.1
  have hb := C0.1.2.1
  have hl : lv_has ls 3 [(0, .ref x), (1, .int row), (2, .int ix)] := hl
  refine lv_iload_n hx hb dX8_storedOvers_0 rfl (lv_at hl 1 rfl) ?_
  exact g_cV C0 G (g_runS C0 G (rest := []) (c_X8_demandRowN hfl row  v0) hY_X8_demandRow mm_X8_275 ms_X8_demandRow ⟨(Nat.le_of_ble_eq_true rfl), (Nat.le_of_ble_eq_true rfl)⟩ rfl hl.1 rfl (Nat.le_of_ble_eq_true rfl) dX8_storedOvers_1 ⟨(Nat.le_of_ble_eq_true rfl), (Nat.le_of_ble_eq_true rfl)⟩) (kx_out C0 (Nat.le_of_ble_eq_true rfl) (Nat.le_of_ble_eq_true rfl) (fun E9 u9 h9 => by
      obtain ⟨hE9, eu12⟩ := h9
      have fr11 : hFrL f u9 [] := fun a9 e9 h7 h8 => by rw [eu12]; exact h8
      exact ⟨hE9, eu12⟩)) (fun _ _ _ h9 _ => (h9).elim)
set_option maxRecDepth 100000 in
theorem c_X8_copyOversE2a0 {l : Launch} (hfl : l.stackTraces = false) {D : va_G} {cy : Nat → ClassId} {f : Hf} {sz : Nat} {x : Nat} {rz : Nat} {fz : Nat} {ro : Nat} {fo : Nat} {A : Nat → Nat} {b : Nat} {b2 : Nat} {lg : Nat} {lg_o : Nat} {tx : Nat} {xea : Int32} {xra : Int32} {xkr : Int32} {zst : Int32} {zex : Int32} {zln : Int32} {gz : Nat → UInt32} {ost : Int32} {oex : Int32} {oln : Int32} {gy : Nat → UInt32} (cnt : Int32) (h_x : f x = some (.inr (10, [.ref (A (b + 0)), .ref (A (b2 + 0)), .ref lg, .ref lg_o, .ref tx, .ref rz, .ref ro, .int xea, .int xra, .int xkr]))) (h_rz : f rz = some (.inr (6, [.ref fz, .int zst, .int zex, .int zln]))) (h_fz : f fz = some (.inl (cy 2, 20, .inr (.inr (.inl gz))))) (h_ro : f ro = some (.inr (6, [.ref fo, .int ost, .int oex, .int oln]))) (h_fo : f fo = some (.inl (cy 2, 20, .inr (.inr (.inl gy))))) (v0 : ¬ (X8_isWithin_x1 0 0 1) = 0) (w0 : zst = 0) : hMet l yX8_copyOvers cX8_copyOvers 5 (some .boolean) { frames := 6, cells := 1, slots := 6, locals := 82 } D (hTy cy) f sz [.ref x, .int 0, .int cnt] (hQi (fun r u => False) D f sz) (fun E u => E = "java/util/NoSuchElementException" ∧ u = f) := by
  refine h_enter (by decide) hfl (Nat.le_of_ble_eq_true rfl) ?_
  intro p9 e9 s9 m9 b9 t9 c9 hsz C0 hr hnm G ls hl
  have hx := C0.1.1
  have hb := C0.1.2.1
  have hl : lv_has ls 5 [(0, .ref x), (1, .int 0), (2, .int cnt)] := hl
  refine lv_iload_n hx hb dX8_copyOvers_0 rfl (lv_at hl 1 rfl) ?_
  refine g_cV C0 G (g_runS C0 G (rest := []) (c_X8_demandRowO hfl 0  v0) hY_X8_demandRow mm_X8_275 ms_X8_demandRow ⟨(Nat.le_of_ble_eq_true rfl), (Nat.le_of_ble_eq_true rfl)⟩ rfl hl.1 rfl (Nat.le_of_ble_eq_true rfl) dX8_copyOvers_1 ⟨(Nat.le_of_ble_eq_true rfl), (Nat.le_of_ble_eq_true rfl)⟩) (kx_no rfl) (fun u12 H locs hp11 G => ?_)
  have eu12 := hp11
  rw [eu12] at G
  refine lv_aload_n hx hb dX8_copyOvers_4 rfl (lv_at hl 0 rfl) ?_
  refine lv_iload_n hx hb dX8_copyOvers_5 rfl (lv_at hl 1 rfl) ?_
  refine g_cR C0 G (g_runV C0 G (rest := []) (c_X8_rowAt0 hfl (A := A) (b := b) (b2 := b2) (xea := xea) (xra := xra) (xkr := xkr) h_x) h_x rfl hY_X8_rowAt mm_X8_278 mi_X8_rowAt ml_X8_rowAt ⟨(Nat.le_of_ble_eq_true rfl), (Nat.le_of_ble_eq_true rfl)⟩ rfl hl.1 rfl (Nat.le_of_ble_eq_true rfl) dX8_copyOvers_6 ⟨(Nat.le_of_ble_eq_true rfl), (Nat.le_of_ble_eq_true rfl)⟩) (kx_no rfl) (fun a15 u14 H locs hp13 G => ?_)
  obtain ⟨er16, eu14⟩ := hp13
  have ser16 := er16.symm
  subst ser16
  rw [eu14] at G
  refine lv_astore_n (lv' := [(3, .ref rz), (0, .ref x), (1, .int 0), (2, .int cnt)]) hx hb dX8_copyOvers_9 rfl hl (by decide) rfl (fun ls hl => ?_)
  refine lv_aload_n hx hb dX8_copyOvers_10 rfl (lv_at hl 1 rfl) ?_
  refine lv_iconst (v := 1) hx hb dX8_copyOvers_11 (by decide) ?_
  refine lv_iload_n hx hb dX8_copyOvers_12 rfl (lv_at hl 2 rfl) ?_
  refine lv_isub hx hb dX8_copyOvers_13 ?_
  refine lv_topv (v := 1) (by decide) ?_
  refine g_cR C0 G (g_runV C0 G (rest := []) (c_X8_rowAt1 hfl (A := A) (b := b) (b2 := b2) (xea := xea) (xra := xra) (xkr := xkr) h_x) h_x rfl hY_X8_rowAt mm_X8_278 mi_X8_rowAt ml_X8_rowAt ⟨(Nat.le_of_ble_eq_true rfl), (Nat.le_of_ble_eq_true rfl)⟩ rfl hl.1 rfl (Nat.le_of_ble_eq_true rfl) dX8_copyOvers_14 ⟨(Nat.le_of_ble_eq_true rfl), (Nat.le_of_ble_eq_true rfl)⟩) (kx_no rfl) (fun a19 u18 H locs hp17 G => ?_)
  obtain ⟨er20, eu18⟩ := hp17
  have ser20 := er20.symm
  subst ser20
  rw [eu18] at G
  refine lv_astore (lv' := [(4, .ref ro), (3, .ref rz), (0, .ref x), (1, .int 0), (2, .int cnt)]) hx hb dX8_copyOvers_17 hl (by decide) rfl (fun ls hl => ?_)
  refine lv_aload_n hx hb dX8_copyOvers_19 rfl (lv_at hl 1 rfl) ?_
  refine g_get C0 G h_rz rfl hiX4 1 (by decide) mf_X8_286 rfl dX8_copyOvers_20 ?_
  refine lv_if_eq (tgt := 34) hx hb dX8_copyOvers_23 (by decide) (fun _ => ?_) (fun c21 => absurd (w0) c21)
  exact g_throwNW C0 G mk_X8_185 mz_java_util_NoSuchElementException (is := 290) (text := "a row was not stored yet") (by decide) hl.1 dX8_copyOvers_34 dX8_copyOvers_37 ⟨dX8_copyOvers_38, dX8_copyOvers_41, dX8_copyOvers_44⟩ ⟨(Nat.le_of_ble_eq_true rfl), (Nat.le_of_ble_eq_true rfl)⟩ ⟨(Nat.le_of_ble_eq_true rfl), (Nat.le_of_ble_eq_true rfl)⟩ (Nat.le_of_ble_eq_true rfl) (Nat.le_of_ble_eq_true rfl) (by exact ⟨rfl, rfl⟩)
set_option maxRecDepth 100000 in
theorem c_X8_copyOversE2b0 {l : Launch} (hfl : l.stackTraces = false) {D : va_G} {cy : Nat → ClassId} {f : Hf} {sz : Nat} {x : Nat} {rz : Nat} {fz : Nat} {ro : Nat} {fo : Nat} {A : Nat → Nat} {b : Nat} {b2 : Nat} {lg : Nat} {lg_o : Nat} {tx : Nat} {xea : Int32} {xra : Int32} {xkr : Int32} {zst : Int32} {zex : Int32} {zln : Int32} {gz : Nat → UInt32} {ost : Int32} {oex : Int32} {oln : Int32} {gy : Nat → UInt32} (cnt : Int32) (h_x : f x = some (.inr (10, [.ref (A (b + 0)), .ref (A (b2 + 0)), .ref lg, .ref lg_o, .ref tx, .ref rz, .ref ro, .int xea, .int xra, .int xkr]))) (h_rz : f rz = some (.inr (6, [.ref fz, .int zst, .int zex, .int zln]))) (h_fz : f fz = some (.inl (cy 2, 20, .inr (.inr (.inl gz))))) (h_ro : f ro = some (.inr (6, [.ref fo, .int ost, .int oex, .int oln]))) (h_fo : f fo = some (.inl (cy 2, 20, .inr (.inr (.inl gy))))) (v0 : ¬ (X8_isWithin_x1 0 0 1) = 0) (w0 : ¬ zst = 0) (w1 : ost = 0) : hMet l yX8_copyOvers cX8_copyOvers 5 (some .boolean) { frames := 6, cells := 1, slots := 6, locals := 82 } D (hTy cy) f sz [.ref x, .int 0, .int cnt] (hQi (fun r u => False) D f sz) (fun E u => E = "java/util/NoSuchElementException" ∧ u = f) := by
  refine h_enter (by decide) hfl (Nat.le_of_ble_eq_true rfl) ?_
  intro p9 e9 s9 m9 b9 t9 c9 hsz C0 hr hnm G ls hl
  have hx := C0.1.1
  have hb := C0.1.2.1
  have hl : lv_has ls 5 [(0, .ref x), (1, .int 0), (2, .int cnt)] := hl
  refine lv_iload_n hx hb dX8_copyOvers_0 rfl (lv_at hl 1 rfl) ?_
  refine g_cV C0 G (g_runS C0 G (rest := []) (c_X8_demandRowO hfl 0  v0) hY_X8_demandRow mm_X8_275 ms_X8_demandRow ⟨(Nat.le_of_ble_eq_true rfl), (Nat.le_of_ble_eq_true rfl)⟩ rfl hl.1 rfl (Nat.le_of_ble_eq_true rfl) dX8_copyOvers_1 ⟨(Nat.le_of_ble_eq_true rfl), (Nat.le_of_ble_eq_true rfl)⟩) (kx_no rfl) (fun u12 H locs hp11 G => ?_)
  have eu12 := hp11
  rw [eu12] at G
  refine lv_aload_n hx hb dX8_copyOvers_4 rfl (lv_at hl 0 rfl) ?_
  refine lv_iload_n hx hb dX8_copyOvers_5 rfl (lv_at hl 1 rfl) ?_
  refine g_cR C0 G (g_runV C0 G (rest := []) (c_X8_rowAt0 hfl (A := A) (b := b) (b2 := b2) (xea := xea) (xra := xra) (xkr := xkr) h_x) h_x rfl hY_X8_rowAt mm_X8_278 mi_X8_rowAt ml_X8_rowAt ⟨(Nat.le_of_ble_eq_true rfl), (Nat.le_of_ble_eq_true rfl)⟩ rfl hl.1 rfl (Nat.le_of_ble_eq_true rfl) dX8_copyOvers_6 ⟨(Nat.le_of_ble_eq_true rfl), (Nat.le_of_ble_eq_true rfl)⟩) (kx_no rfl) (fun a15 u14 H locs hp13 G => ?_)
  obtain ⟨er16, eu14⟩ := hp13
  have ser16 := er16.symm
  subst ser16
  rw [eu14] at G
  refine lv_astore_n (lv' := [(3, .ref rz), (0, .ref x), (1, .int 0), (2, .int cnt)]) hx hb dX8_copyOvers_9 rfl hl (by decide) rfl (fun ls hl => ?_)
  refine lv_aload_n hx hb dX8_copyOvers_10 rfl (lv_at hl 1 rfl) ?_
  refine lv_iconst (v := 1) hx hb dX8_copyOvers_11 (by decide) ?_
  refine lv_iload_n hx hb dX8_copyOvers_12 rfl (lv_at hl 2 rfl) ?_
  refine lv_isub hx hb dX8_copyOvers_13 ?_
  refine lv_topv (v := 1) (by decide) ?_
  refine g_cR C0 G (g_runV C0 G (rest := []) (c_X8_rowAt1 hfl (A := A) (b := b) (b2 := b2) (xea := xea) (xra := xra) (xkr := xkr) h_x) h_x rfl hY_X8_rowAt mm_X8_278 mi_X8_rowAt ml_X8_rowAt ⟨(Nat.le_of_ble_eq_true rfl), (Nat.le_of_ble_eq_true rfl)⟩ rfl hl.1 rfl (Nat.le_of_ble_eq_true rfl) dX8_copyOvers_14 ⟨(Nat.le_of_ble_eq_true rfl), (Nat.le_of_ble_eq_true rfl)⟩) (kx_no rfl) (fun a19 u18 H locs hp17 G => ?_)
  obtain ⟨er20, eu18⟩ := hp17
  have ser20 := er20.symm
  subst ser20
  rw [eu18] at G
  refine lv_astore (lv' := [(4, .ref ro), (3, .ref rz), (0, .ref x), (1, .int 0), (2, .int cnt)]) hx hb dX8_copyOvers_17 hl (by decide) rfl (fun ls hl => ?_)
  refine lv_aload_n hx hb dX8_copyOvers_19 rfl (lv_at hl 1 rfl) ?_
  refine g_get C0 G h_rz rfl hiX4 1 (by decide) mf_X8_286 rfl dX8_copyOvers_20 ?_
  refine lv_if_eq (tgt := 34) hx hb dX8_copyOvers_23 (by decide) (fun c21 => absurd c21 (w0)) (fun _ => ?_)
  refine lv_aload hx hb dX8_copyOvers_26 (lv_at hl 0 rfl) ?_
  refine g_get C0 G h_ro rfl hiX4 1 (by decide) mf_X8_286 rfl dX8_copyOvers_28 ?_
  refine lv_if_ne (tgt := 45) hx hb dX8_copyOvers_31 (by decide) (fun c22 => absurd (w1) c22) (fun _ => ?_)
  exact g_throwNW C0 G mk_X8_185 mz_java_util_NoSuchElementException (is := 290) (text := "a row was not stored yet") (by decide) hl.1 dX8_copyOvers_34 dX8_copyOvers_37 ⟨dX8_copyOvers_38, dX8_copyOvers_41, dX8_copyOvers_44⟩ ⟨(Nat.le_of_ble_eq_true rfl), (Nat.le_of_ble_eq_true rfl)⟩ ⟨(Nat.le_of_ble_eq_true rfl), (Nat.le_of_ble_eq_true rfl)⟩ (Nat.le_of_ble_eq_true rfl) (Nat.le_of_ble_eq_true rfl) (by exact ⟨rfl, rfl⟩)
set_option maxRecDepth 100000 in
theorem c_X8_copyOversE30 {l : Launch} (hfl : l.stackTraces = false) {D : va_G} {cy : Nat → ClassId} {f : Hf} {sz : Nat} {x : Nat} {rz : Nat} {fz : Nat} {ro : Nat} {fo : Nat} {A : Nat → Nat} {b : Nat} {b2 : Nat} {lg : Nat} {lg_o : Nat} {tx : Nat} {xea : Int32} {xra : Int32} {xkr : Int32} {zst : Int32} {zex : Int32} {zln : Int32} {gz : Nat → UInt32} {ost : Int32} {oex : Int32} {oln : Int32} {gy : Nat → UInt32} (cnt : Int32) (h_x : f x = some (.inr (10, [.ref (A (b + 0)), .ref (A (b2 + 0)), .ref lg, .ref lg_o, .ref tx, .ref rz, .ref ro, .int xea, .int xra, .int xkr]))) (h_rz : f rz = some (.inr (6, [.ref fz, .int zst, .int zex, .int zln]))) (h_fz : f fz = some (.inl (cy 2, 20, .inr (.inr (.inl gz))))) (h_ro : f ro = some (.inr (6, [.ref fo, .int ost, .int oex, .int oln]))) (h_fo : f fo = some (.inl (cy 2, 20, .inr (.inr (.inl gy))))) (v0 : ¬ (X8_isWithin_x1 0 0 1) = 0) (w0 : ¬ zst = 0) (w1 : ¬ ost = 0) (w2 : ¬ zex = oex) : hMet l yX8_copyOvers cX8_copyOvers 5 (some .boolean) { frames := 6, cells := 1, slots := 6, locals := 82 } D (hTy cy) f sz [.ref x, .int 0, .int cnt] (hQi (fun r u => False) D f sz) (fun E u => E = "java/lang/UnsupportedOperationException" ∧ u = f) := by
  refine h_enter (by decide) hfl (Nat.le_of_ble_eq_true rfl) ?_
  intro p9 e9 s9 m9 b9 t9 c9 hsz C0 hr hnm G ls hl
  have hx := C0.1.1
  have hb := C0.1.2.1
  have hl : lv_has ls 5 [(0, .ref x), (1, .int 0), (2, .int cnt)] := hl
  refine lv_iload_n hx hb dX8_copyOvers_0 rfl (lv_at hl 1 rfl) ?_
  refine g_cV C0 G (g_runS C0 G (rest := []) (c_X8_demandRowO hfl 0  v0) hY_X8_demandRow mm_X8_275 ms_X8_demandRow ⟨(Nat.le_of_ble_eq_true rfl), (Nat.le_of_ble_eq_true rfl)⟩ rfl hl.1 rfl (Nat.le_of_ble_eq_true rfl) dX8_copyOvers_1 ⟨(Nat.le_of_ble_eq_true rfl), (Nat.le_of_ble_eq_true rfl)⟩) (kx_no rfl) (fun u12 H locs hp11 G => ?_)
  have eu12 := hp11
  rw [eu12] at G
  refine lv_aload_n hx hb dX8_copyOvers_4 rfl (lv_at hl 0 rfl) ?_
  refine lv_iload_n hx hb dX8_copyOvers_5 rfl (lv_at hl 1 rfl) ?_
  refine g_cR C0 G (g_runV C0 G (rest := []) (c_X8_rowAt0 hfl (A := A) (b := b) (b2 := b2) (xea := xea) (xra := xra) (xkr := xkr) h_x) h_x rfl hY_X8_rowAt mm_X8_278 mi_X8_rowAt ml_X8_rowAt ⟨(Nat.le_of_ble_eq_true rfl), (Nat.le_of_ble_eq_true rfl)⟩ rfl hl.1 rfl (Nat.le_of_ble_eq_true rfl) dX8_copyOvers_6 ⟨(Nat.le_of_ble_eq_true rfl), (Nat.le_of_ble_eq_true rfl)⟩) (kx_no rfl) (fun a15 u14 H locs hp13 G => ?_)
  obtain ⟨er16, eu14⟩ := hp13
  have ser16 := er16.symm
  subst ser16
  rw [eu14] at G
  refine lv_astore_n (lv' := [(3, .ref rz), (0, .ref x), (1, .int 0), (2, .int cnt)]) hx hb dX8_copyOvers_9 rfl hl (by decide) rfl (fun ls hl => ?_)
  refine lv_aload_n hx hb dX8_copyOvers_10 rfl (lv_at hl 1 rfl) ?_
  refine lv_iconst (v := 1) hx hb dX8_copyOvers_11 (by decide) ?_
  refine lv_iload_n hx hb dX8_copyOvers_12 rfl (lv_at hl 2 rfl) ?_
  refine lv_isub hx hb dX8_copyOvers_13 ?_
  refine lv_topv (v := 1) (by decide) ?_
  refine g_cR C0 G (g_runV C0 G (rest := []) (c_X8_rowAt1 hfl (A := A) (b := b) (b2 := b2) (xea := xea) (xra := xra) (xkr := xkr) h_x) h_x rfl hY_X8_rowAt mm_X8_278 mi_X8_rowAt ml_X8_rowAt ⟨(Nat.le_of_ble_eq_true rfl), (Nat.le_of_ble_eq_true rfl)⟩ rfl hl.1 rfl (Nat.le_of_ble_eq_true rfl) dX8_copyOvers_14 ⟨(Nat.le_of_ble_eq_true rfl), (Nat.le_of_ble_eq_true rfl)⟩) (kx_no rfl) (fun a19 u18 H locs hp17 G => ?_)
  obtain ⟨er20, eu18⟩ := hp17
  have ser20 := er20.symm
  subst ser20
  rw [eu18] at G
  refine lv_astore (lv' := [(4, .ref ro), (3, .ref rz), (0, .ref x), (1, .int 0), (2, .int cnt)]) hx hb dX8_copyOvers_17 hl (by decide) rfl (fun ls hl => ?_)
  refine lv_aload_n hx hb dX8_copyOvers_19 rfl (lv_at hl 1 rfl) ?_
  refine g_get C0 G h_rz rfl hiX4 1 (by decide) mf_X8_286 rfl dX8_copyOvers_20 ?_
  refine lv_if_eq (tgt := 34) hx hb dX8_copyOvers_23 (by decide) (fun c21 => absurd c21 (w0)) (fun _ => ?_)
  refine lv_aload hx hb dX8_copyOvers_26 (lv_at hl 0 rfl) ?_
  refine g_get C0 G h_ro rfl hiX4 1 (by decide) mf_X8_286 rfl dX8_copyOvers_28 ?_
  refine lv_if_ne (tgt := 45) hx hb dX8_copyOvers_31 (by decide) (fun _ => ?_) (fun c22 => absurd c22 (w1))
  refine lv_aload_n hx hb dX8_copyOvers_45 rfl (lv_at hl 1 rfl) ?_
  refine g_get C0 G h_rz rfl hiX4 2 (by decide) mf_X8_292 rfl dX8_copyOvers_46 ?_
  refine lv_aload hx hb dX8_copyOvers_49 (lv_at hl 0 rfl) ?_
  refine g_get C0 G h_ro rfl hiX4 2 (by decide) mf_X8_292 rfl dX8_copyOvers_51 ?_
  refine lv_icmp_eq (tgt := 68) hx hb dX8_copyOvers_54 (by decide) (fun c23 => absurd c23 (w2)) (fun _ => ?_)
  exact g_throwW C0 G (X := "java/lang/UnsupportedOperationException") (by decide) mk_X8_155 mz_java_lang_UnsupportedOperationException (is := 295) (text := "the rows have different element types") (by decide) hat_159 hl.1 dX8_copyOvers_57 dX8_copyOvers_60 dX8_copyOvers_61 dX8_copyOvers_64 dX8_copyOvers_67 ⟨(Nat.le_of_ble_eq_true rfl), (Nat.le_of_ble_eq_true rfl)⟩ ⟨(Nat.le_of_ble_eq_true rfl), (Nat.le_of_ble_eq_true rfl)⟩ (Nat.le_of_ble_eq_true rfl) (Nat.le_of_ble_eq_true rfl) (by exact ⟨rfl, rfl⟩)
set_option maxRecDepth 100000 in
theorem c_X8_copyOversE4a0 {l : Launch} (hfl : l.stackTraces = false) {D : va_G} {cy : Nat → ClassId} {f : Hf} {sz : Nat} {x : Nat} {rz : Nat} {fz : Nat} {ro : Nat} {fo : Nat} {A : Nat → Nat} {b : Nat} {b2 : Nat} {lg : Nat} {lg_o : Nat} {tx : Nat} {xea : Int32} {xra : Int32} {xkr : Int32} {zst : Int32} {zex : Int32} {zln : Int32} {gz : Nat → UInt32} {ost : Int32} {oex : Int32} {oln : Int32} {gy : Nat → UInt32} (cnt : Int32) (h_x : f x = some (.inr (10, [.ref (A (b + 0)), .ref (A (b2 + 0)), .ref lg, .ref lg_o, .ref tx, .ref rz, .ref ro, .int xea, .int xra, .int xkr]))) (h_rz : f rz = some (.inr (6, [.ref fz, .int zst, .int zex, .int zln]))) (h_fz : f fz = some (.inl (cy 2, 20, .inr (.inr (.inl gz))))) (h_ro : f ro = some (.inr (6, [.ref fo, .int ost, .int oex, .int oln]))) (h_fo : f fo = some (.inl (cy 2, 20, .inr (.inr (.inl gy))))) (v0 : ¬ (X8_isWithin_x1 0 0 1) = 0) (w0 : ¬ zst = 0) (w1 : ¬ ost = 0) (w2 : zex = oex) (w3 : cnt < 0) : hMet l yX8_copyOvers cX8_copyOvers 5 (some .boolean) { frames := 6, cells := 1, slots := 6, locals := 82 } D (hTy cy) f sz [.ref x, .int 0, .int cnt] (hQi (fun r u => False) D f sz) (fun E u => E = "java/lang/IllegalArgumentException" ∧ u = f) := by
  refine h_enter (by decide) hfl (Nat.le_of_ble_eq_true rfl) ?_
  intro p9 e9 s9 m9 b9 t9 c9 hsz C0 hr hnm G ls hl
  have hx := C0.1.1
  have hb := C0.1.2.1
  have hl : lv_has ls 5 [(0, .ref x), (1, .int 0), (2, .int cnt)] := hl
  refine lv_iload_n hx hb dX8_copyOvers_0 rfl (lv_at hl 1 rfl) ?_
  refine g_cV C0 G (g_runS C0 G (rest := []) (c_X8_demandRowO hfl 0  v0) hY_X8_demandRow mm_X8_275 ms_X8_demandRow ⟨(Nat.le_of_ble_eq_true rfl), (Nat.le_of_ble_eq_true rfl)⟩ rfl hl.1 rfl (Nat.le_of_ble_eq_true rfl) dX8_copyOvers_1 ⟨(Nat.le_of_ble_eq_true rfl), (Nat.le_of_ble_eq_true rfl)⟩) (kx_no rfl) (fun u12 H locs hp11 G => ?_)
  have eu12 := hp11
  rw [eu12] at G
  refine lv_aload_n hx hb dX8_copyOvers_4 rfl (lv_at hl 0 rfl) ?_
  refine lv_iload_n hx hb dX8_copyOvers_5 rfl (lv_at hl 1 rfl) ?_
  refine g_cR C0 G (g_runV C0 G (rest := []) (c_X8_rowAt0 hfl (A := A) (b := b) (b2 := b2) (xea := xea) (xra := xra) (xkr := xkr) h_x) h_x rfl hY_X8_rowAt mm_X8_278 mi_X8_rowAt ml_X8_rowAt ⟨(Nat.le_of_ble_eq_true rfl), (Nat.le_of_ble_eq_true rfl)⟩ rfl hl.1 rfl (Nat.le_of_ble_eq_true rfl) dX8_copyOvers_6 ⟨(Nat.le_of_ble_eq_true rfl), (Nat.le_of_ble_eq_true rfl)⟩) (kx_no rfl) (fun a15 u14 H locs hp13 G => ?_)
  obtain ⟨er16, eu14⟩ := hp13
  have ser16 := er16.symm
  subst ser16
  rw [eu14] at G
  refine lv_astore_n (lv' := [(3, .ref rz), (0, .ref x), (1, .int 0), (2, .int cnt)]) hx hb dX8_copyOvers_9 rfl hl (by decide) rfl (fun ls hl => ?_)
  refine lv_aload_n hx hb dX8_copyOvers_10 rfl (lv_at hl 1 rfl) ?_
  refine lv_iconst (v := 1) hx hb dX8_copyOvers_11 (by decide) ?_
  refine lv_iload_n hx hb dX8_copyOvers_12 rfl (lv_at hl 2 rfl) ?_
  refine lv_isub hx hb dX8_copyOvers_13 ?_
  refine lv_topv (v := 1) (by decide) ?_
  refine g_cR C0 G (g_runV C0 G (rest := []) (c_X8_rowAt1 hfl (A := A) (b := b) (b2 := b2) (xea := xea) (xra := xra) (xkr := xkr) h_x) h_x rfl hY_X8_rowAt mm_X8_278 mi_X8_rowAt ml_X8_rowAt ⟨(Nat.le_of_ble_eq_true rfl), (Nat.le_of_ble_eq_true rfl)⟩ rfl hl.1 rfl (Nat.le_of_ble_eq_true rfl) dX8_copyOvers_14 ⟨(Nat.le_of_ble_eq_true rfl), (Nat.le_of_ble_eq_true rfl)⟩) (kx_no rfl) (fun a19 u18 H locs hp17 G => ?_)
  obtain ⟨er20, eu18⟩ := hp17
  have ser20 := er20.symm
  subst ser20
  rw [eu18] at G
  refine lv_astore (lv' := [(4, .ref ro), (3, .ref rz), (0, .ref x), (1, .int 0), (2, .int cnt)]) hx hb dX8_copyOvers_17 hl (by decide) rfl (fun ls hl => ?_)
  refine lv_aload_n hx hb dX8_copyOvers_19 rfl (lv_at hl 1 rfl) ?_
  refine g_get C0 G h_rz rfl hiX4 1 (by decide) mf_X8_286 rfl dX8_copyOvers_20 ?_
  refine lv_if_eq (tgt := 34) hx hb dX8_copyOvers_23 (by decide) (fun c21 => absurd c21 (w0)) (fun _ => ?_)
  refine lv_aload hx hb dX8_copyOvers_26 (lv_at hl 0 rfl) ?_
  refine g_get C0 G h_ro rfl hiX4 1 (by decide) mf_X8_286 rfl dX8_copyOvers_28 ?_
  refine lv_if_ne (tgt := 45) hx hb dX8_copyOvers_31 (by decide) (fun _ => ?_) (fun c22 => absurd c22 (w1))
  refine lv_aload_n hx hb dX8_copyOvers_45 rfl (lv_at hl 1 rfl) ?_
  refine g_get C0 G h_rz rfl hiX4 2 (by decide) mf_X8_292 rfl dX8_copyOvers_46 ?_
  refine lv_aload hx hb dX8_copyOvers_49 (lv_at hl 0 rfl) ?_
  refine g_get C0 G h_ro rfl hiX4 2 (by decide) mf_X8_292 rfl dX8_copyOvers_51 ?_
  refine lv_icmp_eq (tgt := 68) hx hb dX8_copyOvers_54 (by decide) (fun _ => ?_) (fun c23 => absurd (w2) c23)
  refine lv_iload_n hx hb dX8_copyOvers_68 rfl (lv_at hl 4 rfl) ?_
  refine lv_if_lt (tgt := 89) hx hb dX8_copyOvers_69 (by decide) (fun _ => ?_) (fun c24 => absurd (w3) c24)
  exact g_throwW C0 G (X := "java/lang/IllegalArgumentException") (by decide) mk_X8_60 mz_java_lang_IllegalArgumentException (is := 300) (text := "count out of range") (by decide) hat_64 hl.1 dX8_copyOvers_89 dX8_copyOvers_92 dX8_copyOvers_93 dX8_copyOvers_96 dX8_copyOvers_99 ⟨(Nat.le_of_ble_eq_true rfl), (Nat.le_of_ble_eq_true rfl)⟩ ⟨(Nat.le_of_ble_eq_true rfl), (Nat.le_of_ble_eq_true rfl)⟩ (Nat.le_of_ble_eq_true rfl) (Nat.le_of_ble_eq_true rfl) (by exact ⟨rfl, rfl⟩)
set_option maxRecDepth 100000 in
theorem c_X8_copyOversE4b0 {l : Launch} (hfl : l.stackTraces = false) {D : va_G} {cy : Nat → ClassId} {f : Hf} {sz : Nat} {x : Nat} {rz : Nat} {fz : Nat} {ro : Nat} {fo : Nat} {A : Nat → Nat} {b : Nat} {b2 : Nat} {lg : Nat} {lg_o : Nat} {tx : Nat} {xea : Int32} {xra : Int32} {xkr : Int32} {zst : Int32} {zex : Int32} {zln : Int32} {gz : Nat → UInt32} {ost : Int32} {oex : Int32} {oln : Int32} {gy : Nat → UInt32} (cnt : Int32) (h_x : f x = some (.inr (10, [.ref (A (b + 0)), .ref (A (b2 + 0)), .ref lg, .ref lg_o, .ref tx, .ref rz, .ref ro, .int xea, .int xra, .int xkr]))) (h_rz : f rz = some (.inr (6, [.ref fz, .int zst, .int zex, .int zln]))) (h_fz : f fz = some (.inl (cy 2, 20, .inr (.inr (.inl gz))))) (h_ro : f ro = some (.inr (6, [.ref fo, .int ost, .int oex, .int oln]))) (h_fo : f fo = some (.inl (cy 2, 20, .inr (.inr (.inl gy))))) (v0 : ¬ (X8_isWithin_x1 0 0 1) = 0) (w0 : ¬ zst = 0) (w1 : ¬ ost = 0) (w2 : zex = oex) (w3 : 0 ≤ cnt) (w4 : zln < cnt) : hMet l yX8_copyOvers cX8_copyOvers 5 (some .boolean) { frames := 6, cells := 1, slots := 6, locals := 82 } D (hTy cy) f sz [.ref x, .int 0, .int cnt] (hQi (fun r u => False) D f sz) (fun E u => E = "java/lang/IllegalArgumentException" ∧ u = f) := by
  refine h_enter (by decide) hfl (Nat.le_of_ble_eq_true rfl) ?_
  intro p9 e9 s9 m9 b9 t9 c9 hsz C0 hr hnm G ls hl
  have hx := C0.1.1
  have hb := C0.1.2.1
  have hl : lv_has ls 5 [(0, .ref x), (1, .int 0), (2, .int cnt)] := hl
  refine lv_iload_n hx hb dX8_copyOvers_0 rfl (lv_at hl 1 rfl) ?_
  refine g_cV C0 G (g_runS C0 G (rest := []) (c_X8_demandRowO hfl 0  v0) hY_X8_demandRow mm_X8_275 ms_X8_demandRow ⟨(Nat.le_of_ble_eq_true rfl), (Nat.le_of_ble_eq_true rfl)⟩ rfl hl.1 rfl (Nat.le_of_ble_eq_true rfl) dX8_copyOvers_1 ⟨(Nat.le_of_ble_eq_true rfl), (Nat.le_of_ble_eq_true rfl)⟩) (kx_no rfl) (fun u12 H locs hp11 G => ?_)
  have eu12 := hp11
  rw [eu12] at G
  refine lv_aload_n hx hb dX8_copyOvers_4 rfl (lv_at hl 0 rfl) ?_
  refine lv_iload_n hx hb dX8_copyOvers_5 rfl (lv_at hl 1 rfl) ?_
  refine g_cR C0 G (g_runV C0 G (rest := []) (c_X8_rowAt0 hfl (A := A) (b := b) (b2 := b2) (xea := xea) (xra := xra) (xkr := xkr) h_x) h_x rfl hY_X8_rowAt mm_X8_278 mi_X8_rowAt ml_X8_rowAt ⟨(Nat.le_of_ble_eq_true rfl), (Nat.le_of_ble_eq_true rfl)⟩ rfl hl.1 rfl (Nat.le_of_ble_eq_true rfl) dX8_copyOvers_6 ⟨(Nat.le_of_ble_eq_true rfl), (Nat.le_of_ble_eq_true rfl)⟩) (kx_no rfl) (fun a15 u14 H locs hp13 G => ?_)
  obtain ⟨er16, eu14⟩ := hp13
  have ser16 := er16.symm
  subst ser16
  rw [eu14] at G
  refine lv_astore_n (lv' := [(3, .ref rz), (0, .ref x), (1, .int 0), (2, .int cnt)]) hx hb dX8_copyOvers_9 rfl hl (by decide) rfl (fun ls hl => ?_)
  refine lv_aload_n hx hb dX8_copyOvers_10 rfl (lv_at hl 1 rfl) ?_
  refine lv_iconst (v := 1) hx hb dX8_copyOvers_11 (by decide) ?_
  refine lv_iload_n hx hb dX8_copyOvers_12 rfl (lv_at hl 2 rfl) ?_
  refine lv_isub hx hb dX8_copyOvers_13 ?_
  refine lv_topv (v := 1) (by decide) ?_
  refine g_cR C0 G (g_runV C0 G (rest := []) (c_X8_rowAt1 hfl (A := A) (b := b) (b2 := b2) (xea := xea) (xra := xra) (xkr := xkr) h_x) h_x rfl hY_X8_rowAt mm_X8_278 mi_X8_rowAt ml_X8_rowAt ⟨(Nat.le_of_ble_eq_true rfl), (Nat.le_of_ble_eq_true rfl)⟩ rfl hl.1 rfl (Nat.le_of_ble_eq_true rfl) dX8_copyOvers_14 ⟨(Nat.le_of_ble_eq_true rfl), (Nat.le_of_ble_eq_true rfl)⟩) (kx_no rfl) (fun a19 u18 H locs hp17 G => ?_)
  obtain ⟨er20, eu18⟩ := hp17
  have ser20 := er20.symm
  subst ser20
  rw [eu18] at G
  refine lv_astore (lv' := [(4, .ref ro), (3, .ref rz), (0, .ref x), (1, .int 0), (2, .int cnt)]) hx hb dX8_copyOvers_17 hl (by decide) rfl (fun ls hl => ?_)
  refine lv_aload_n hx hb dX8_copyOvers_19 rfl (lv_at hl 1 rfl) ?_
  refine g_get C0 G h_rz rfl hiX4 1 (by decide) mf_X8_286 rfl dX8_copyOvers_20 ?_
  refine lv_if_eq (tgt := 34) hx hb dX8_copyOvers_23 (by decide) (fun c21 => absurd c21 (w0)) (fun _ => ?_)
  refine lv_aload hx hb dX8_copyOvers_26 (lv_at hl 0 rfl) ?_
  refine g_get C0 G h_ro rfl hiX4 1 (by decide) mf_X8_286 rfl dX8_copyOvers_28 ?_
  refine lv_if_ne (tgt := 45) hx hb dX8_copyOvers_31 (by decide) (fun _ => ?_) (fun c22 => absurd c22 (w1))
  refine lv_aload_n hx hb dX8_copyOvers_45 rfl (lv_at hl 1 rfl) ?_
  refine g_get C0 G h_rz rfl hiX4 2 (by decide) mf_X8_292 rfl dX8_copyOvers_46 ?_
  refine lv_aload hx hb dX8_copyOvers_49 (lv_at hl 0 rfl) ?_
  refine g_get C0 G h_ro rfl hiX4 2 (by decide) mf_X8_292 rfl dX8_copyOvers_51 ?_
  refine lv_icmp_eq (tgt := 68) hx hb dX8_copyOvers_54 (by decide) (fun _ => ?_) (fun c23 => absurd (w2) c23)
  refine lv_iload_n hx hb dX8_copyOvers_68 rfl (lv_at hl 4 rfl) ?_
  refine lv_if_lt (tgt := 89) hx hb dX8_copyOvers_69 (by decide) (fun c24 => absurd c24 ((Int32.not_lt.mpr w3))) (fun _ => ?_)
  refine lv_iload_n hx hb dX8_copyOvers_72 rfl (lv_at hl 4 rfl) ?_
  refine lv_aload_n hx hb dX8_copyOvers_73 rfl (lv_at hl 1 rfl) ?_
  refine g_get C0 G h_rz rfl hiX4 3 (by decide) mf_X8_297 rfl dX8_copyOvers_74 ?_
  refine lv_icmp_gt (tgt := 89) hx hb dX8_copyOvers_77 (by decide) (fun _ => ?_) (fun c25 => absurd (w4) c25)
  exact g_throwW C0 G (X := "java/lang/IllegalArgumentException") (by decide) mk_X8_60 mz_java_lang_IllegalArgumentException (is := 300) (text := "count out of range") (by decide) hat_64 hl.1 dX8_copyOvers_89 dX8_copyOvers_92 dX8_copyOvers_93 dX8_copyOvers_96 dX8_copyOvers_99 ⟨(Nat.le_of_ble_eq_true rfl), (Nat.le_of_ble_eq_true rfl)⟩ ⟨(Nat.le_of_ble_eq_true rfl), (Nat.le_of_ble_eq_true rfl)⟩ (Nat.le_of_ble_eq_true rfl) (Nat.le_of_ble_eq_true rfl) (by exact ⟨rfl, rfl⟩)
set_option maxRecDepth 100000 in
theorem c_X8_copyOversE4c0 {l : Launch} (hfl : l.stackTraces = false) {D : va_G} {cy : Nat → ClassId} {f : Hf} {sz : Nat} {x : Nat} {rz : Nat} {fz : Nat} {ro : Nat} {fo : Nat} {A : Nat → Nat} {b : Nat} {b2 : Nat} {lg : Nat} {lg_o : Nat} {tx : Nat} {xea : Int32} {xra : Int32} {xkr : Int32} {zst : Int32} {zex : Int32} {zln : Int32} {gz : Nat → UInt32} {ost : Int32} {oex : Int32} {oln : Int32} {gy : Nat → UInt32} (cnt : Int32) (h_x : f x = some (.inr (10, [.ref (A (b + 0)), .ref (A (b2 + 0)), .ref lg, .ref lg_o, .ref tx, .ref rz, .ref ro, .int xea, .int xra, .int xkr]))) (h_rz : f rz = some (.inr (6, [.ref fz, .int zst, .int zex, .int zln]))) (h_fz : f fz = some (.inl (cy 2, 20, .inr (.inr (.inl gz))))) (h_ro : f ro = some (.inr (6, [.ref fo, .int ost, .int oex, .int oln]))) (h_fo : f fo = some (.inl (cy 2, 20, .inr (.inr (.inl gy))))) (v0 : ¬ (X8_isWithin_x1 0 0 1) = 0) (w0 : ¬ zst = 0) (w1 : ¬ ost = 0) (w2 : zex = oex) (w3 : 0 ≤ cnt) (w4 : cnt ≤ zln) (w5 : oln < cnt) : hMet l yX8_copyOvers cX8_copyOvers 5 (some .boolean) { frames := 6, cells := 1, slots := 6, locals := 82 } D (hTy cy) f sz [.ref x, .int 0, .int cnt] (hQi (fun r u => False) D f sz) (fun E u => E = "java/lang/IllegalArgumentException" ∧ u = f) := by
  refine h_enter (by decide) hfl (Nat.le_of_ble_eq_true rfl) ?_
  intro p9 e9 s9 m9 b9 t9 c9 hsz C0 hr hnm G ls hl
  have hx := C0.1.1
  have hb := C0.1.2.1
  have hl : lv_has ls 5 [(0, .ref x), (1, .int 0), (2, .int cnt)] := hl
  refine lv_iload_n hx hb dX8_copyOvers_0 rfl (lv_at hl 1 rfl) ?_
  refine g_cV C0 G (g_runS C0 G (rest := []) (c_X8_demandRowO hfl 0  v0) hY_X8_demandRow mm_X8_275 ms_X8_demandRow ⟨(Nat.le_of_ble_eq_true rfl), (Nat.le_of_ble_eq_true rfl)⟩ rfl hl.1 rfl (Nat.le_of_ble_eq_true rfl) dX8_copyOvers_1 ⟨(Nat.le_of_ble_eq_true rfl), (Nat.le_of_ble_eq_true rfl)⟩) (kx_no rfl) (fun u12 H locs hp11 G => ?_)
  have eu12 := hp11
  rw [eu12] at G
  refine lv_aload_n hx hb dX8_copyOvers_4 rfl (lv_at hl 0 rfl) ?_
  refine lv_iload_n hx hb dX8_copyOvers_5 rfl (lv_at hl 1 rfl) ?_
  refine g_cR C0 G (g_runV C0 G (rest := []) (c_X8_rowAt0 hfl (A := A) (b := b) (b2 := b2) (xea := xea) (xra := xra) (xkr := xkr) h_x) h_x rfl hY_X8_rowAt mm_X8_278 mi_X8_rowAt ml_X8_rowAt ⟨(Nat.le_of_ble_eq_true rfl), (Nat.le_of_ble_eq_true rfl)⟩ rfl hl.1 rfl (Nat.le_of_ble_eq_true rfl) dX8_copyOvers_6 ⟨(Nat.le_of_ble_eq_true rfl), (Nat.le_of_ble_eq_true rfl)⟩) (kx_no rfl) (fun a15 u14 H locs hp13 G => ?_)
  obtain ⟨er16, eu14⟩ := hp13
  have ser16 := er16.symm
  subst ser16
  rw [eu14] at G
  refine lv_astore_n (lv' := [(3, .ref rz), (0, .ref x), (1, .int 0), (2, .int cnt)]) hx hb dX8_copyOvers_9 rfl hl (by decide) rfl (fun ls hl => ?_)
  refine lv_aload_n hx hb dX8_copyOvers_10 rfl (lv_at hl 1 rfl) ?_
  refine lv_iconst (v := 1) hx hb dX8_copyOvers_11 (by decide) ?_
  refine lv_iload_n hx hb dX8_copyOvers_12 rfl (lv_at hl 2 rfl) ?_
  refine lv_isub hx hb dX8_copyOvers_13 ?_
  refine lv_topv (v := 1) (by decide) ?_
  refine g_cR C0 G (g_runV C0 G (rest := []) (c_X8_rowAt1 hfl (A := A) (b := b) (b2 := b2) (xea := xea) (xra := xra) (xkr := xkr) h_x) h_x rfl hY_X8_rowAt mm_X8_278 mi_X8_rowAt ml_X8_rowAt ⟨(Nat.le_of_ble_eq_true rfl), (Nat.le_of_ble_eq_true rfl)⟩ rfl hl.1 rfl (Nat.le_of_ble_eq_true rfl) dX8_copyOvers_14 ⟨(Nat.le_of_ble_eq_true rfl), (Nat.le_of_ble_eq_true rfl)⟩) (kx_no rfl) (fun a19 u18 H locs hp17 G => ?_)
  obtain ⟨er20, eu18⟩ := hp17
  have ser20 := er20.symm
  subst ser20
  rw [eu18] at G
  refine lv_astore (lv' := [(4, .ref ro), (3, .ref rz), (0, .ref x), (1, .int 0), (2, .int cnt)]) hx hb dX8_copyOvers_17 hl (by decide) rfl (fun ls hl => ?_)
  refine lv_aload_n hx hb dX8_copyOvers_19 rfl (lv_at hl 1 rfl) ?_
  refine g_get C0 G h_rz rfl hiX4 1 (by decide) mf_X8_286 rfl dX8_copyOvers_20 ?_
  refine lv_if_eq (tgt := 34) hx hb dX8_copyOvers_23 (by decide) (fun c21 => absurd c21 (w0)) (fun _ => ?_)
  refine lv_aload hx hb dX8_copyOvers_26 (lv_at hl 0 rfl) ?_
  refine g_get C0 G h_ro rfl hiX4 1 (by decide) mf_X8_286 rfl dX8_copyOvers_28 ?_
  refine lv_if_ne (tgt := 45) hx hb dX8_copyOvers_31 (by decide) (fun _ => ?_) (fun c22 => absurd c22 (w1))
  refine lv_aload_n hx hb dX8_copyOvers_45 rfl (lv_at hl 1 rfl) ?_
  refine g_get C0 G h_rz rfl hiX4 2 (by decide) mf_X8_292 rfl dX8_copyOvers_46 ?_
  refine lv_aload hx hb dX8_copyOvers_49 (lv_at hl 0 rfl) ?_
  refine g_get C0 G h_ro rfl hiX4 2 (by decide) mf_X8_292 rfl dX8_copyOvers_51 ?_
  refine lv_icmp_eq (tgt := 68) hx hb dX8_copyOvers_54 (by decide) (fun _ => ?_) (fun c23 => absurd (w2) c23)
  refine lv_iload_n hx hb dX8_copyOvers_68 rfl (lv_at hl 4 rfl) ?_
  refine lv_if_lt (tgt := 89) hx hb dX8_copyOvers_69 (by decide) (fun c24 => absurd c24 ((Int32.not_lt.mpr w3))) (fun _ => ?_)
  refine lv_iload_n hx hb dX8_copyOvers_72 rfl (lv_at hl 4 rfl) ?_
  refine lv_aload_n hx hb dX8_copyOvers_73 rfl (lv_at hl 1 rfl) ?_
  refine g_get C0 G h_rz rfl hiX4 3 (by decide) mf_X8_297 rfl dX8_copyOvers_74 ?_
  refine lv_icmp_gt (tgt := 89) hx hb dX8_copyOvers_77 (by decide) (fun c25 => absurd c25 ((Int32.not_lt.mpr w4))) (fun _ => ?_)
  refine lv_iload_n hx hb dX8_copyOvers_80 rfl (lv_at hl 4 rfl) ?_
  refine lv_aload hx hb dX8_copyOvers_81 (lv_at hl 0 rfl) ?_
  refine g_get C0 G h_ro rfl hiX4 3 (by decide) mf_X8_297 rfl dX8_copyOvers_83 ?_
  refine lv_icmp_le (tgt := 100) hx hb dX8_copyOvers_86 (by decide) (fun c26 => absurd c26 ((fun q => (Int32.not_lt.mpr q) w5))) (fun _ => ?_)
  exact g_throwW C0 G (X := "java/lang/IllegalArgumentException") (by decide) mk_X8_60 mz_java_lang_IllegalArgumentException (is := 300) (text := "count out of range") (by decide) hat_64 hl.1 dX8_copyOvers_89 dX8_copyOvers_92 dX8_copyOvers_93 dX8_copyOvers_96 dX8_copyOvers_99 ⟨(Nat.le_of_ble_eq_true rfl), (Nat.le_of_ble_eq_true rfl)⟩ ⟨(Nat.le_of_ble_eq_true rfl), (Nat.le_of_ble_eq_true rfl)⟩ (Nat.le_of_ble_eq_true rfl) (Nat.le_of_ble_eq_true rfl) (by exact ⟨rfl, rfl⟩)
def X8_copyOversY0_g0 (gz : Nat → UInt32) (gy : Nat → UInt32) (cn : Nat) : Nat → UInt32 := (X4_take_g2 cn gy gz)
set_option maxRecDepth 100000 in
theorem c_X8_copyOversY0 {l : Launch} (hfl : l.stackTraces = false) {D : va_G} {cy : Nat → ClassId} {f : Hf} {sz : Nat} {x : Nat} {rz : Nat} {fz : Nat} {ro : Nat} {fo : Nat} {A : Nat → Nat} {b : Nat} {b2 : Nat} {lg : Nat} {lg_o : Nat} {tx : Nat} {xea : Int32} {xra : Int32} {xkr : Int32} {zst : Int32} {zex : Int32} {zln : Int32} {gz : Nat → UInt32} {ost : Int32} {oex : Int32} {oln : Int32} {gy : Nat → UInt32} {cn : Nat} (h_x : f x = some (.inr (10, [.ref (A (b + 0)), .ref (A (b2 + 0)), .ref lg, .ref lg_o, .ref tx, .ref rz, .ref ro, .int xea, .int xra, .int xkr]))) (h_rz : f rz = some (.inr (6, [.ref fz, .int zst, .int zex, .int zln]))) (h_fz : f fz = some (.inl (cy 2, 20, .inr (.inr (.inl gz))))) (h_ro : f ro = some (.inr (6, [.ref fo, .int ost, .int oex, .int oln]))) (h_fo : f fo = some (.inl (cy 2, 20, .inr (.inr (.inl gy))))) (v0 : ¬ (X8_isWithin_x1 0 0 1) = 0) (w0 : ¬ zst = 0) (w1 : ¬ ost = 0) (w2 : zex = oex) (w3 : 0 ≤ nI cn) (w4 : nI cn ≤ zln) (w5 : nI cn ≤ oln) (hcn : cn ≤ 20) (hfe : fz ≠ fo) : hMet l yX8_copyOvers cX8_copyOvers 5 (some .boolean) { frames := 2, cells := 0, slots := 0, locals := 46 } D (hTy cy) f sz [.ref x, .int 0, .int (nI cn)] (hQi (fun r u => r = (tkC gy gz cn) ∧ u fo = some (.inl (cy 2, 20, .inr (.inr (.inl (X8_copyOversY0_g0 gz gy cn))))) ∧ hFrL f u [fo]) D f sz) hNo := by
  refine h_enter (by decide) hfl (Nat.le_of_ble_eq_true rfl) ?_
  intro p9 e9 s9 m9 b9 t9 c9 hsz C0 hr hnm G ls hl
  have hx := C0.1.1
  have hb := C0.1.2.1
  have hl : lv_has ls 5 [(0, .ref x), (1, .int 0), (2, .int (nI cn))] := hl
  refine lv_iload_n hx hb dX8_copyOvers_0 rfl (lv_at hl 1 rfl) ?_
  refine g_cV C0 G (g_runS C0 G (rest := []) (c_X8_demandRowO hfl 0  v0) hY_X8_demandRow mm_X8_275 ms_X8_demandRow ⟨(Nat.le_of_ble_eq_true rfl), (Nat.le_of_ble_eq_true rfl)⟩ rfl hl.1 rfl (Nat.le_of_ble_eq_true rfl) dX8_copyOvers_1 ⟨(Nat.le_of_ble_eq_true rfl), (Nat.le_of_ble_eq_true rfl)⟩) (kx_no rfl) (fun u12 H locs hp11 G => ?_)
  have eu12 := hp11
  rw [eu12] at G
  refine lv_aload_n hx hb dX8_copyOvers_4 rfl (lv_at hl 0 rfl) ?_
  refine lv_iload_n hx hb dX8_copyOvers_5 rfl (lv_at hl 1 rfl) ?_
  refine g_cR C0 G (g_runV C0 G (rest := []) (c_X8_rowAt0 hfl (A := A) (b := b) (b2 := b2) (xea := xea) (xra := xra) (xkr := xkr) h_x) h_x rfl hY_X8_rowAt mm_X8_278 mi_X8_rowAt ml_X8_rowAt ⟨(Nat.le_of_ble_eq_true rfl), (Nat.le_of_ble_eq_true rfl)⟩ rfl hl.1 rfl (Nat.le_of_ble_eq_true rfl) dX8_copyOvers_6 ⟨(Nat.le_of_ble_eq_true rfl), (Nat.le_of_ble_eq_true rfl)⟩) (kx_no rfl) (fun a15 u14 H locs hp13 G => ?_)
  obtain ⟨er16, eu14⟩ := hp13
  have ser16 := er16.symm
  subst ser16
  rw [eu14] at G
  refine lv_astore_n (lv' := [(3, .ref rz), (0, .ref x), (1, .int 0), (2, .int (nI cn))]) hx hb dX8_copyOvers_9 rfl hl (by decide) rfl (fun ls hl => ?_)
  refine lv_aload_n hx hb dX8_copyOvers_10 rfl (lv_at hl 1 rfl) ?_
  refine lv_iconst (v := 1) hx hb dX8_copyOvers_11 (by decide) ?_
  refine lv_iload_n hx hb dX8_copyOvers_12 rfl (lv_at hl 2 rfl) ?_
  refine lv_isub hx hb dX8_copyOvers_13 ?_
  refine lv_topv (v := 1) (by decide) ?_
  refine g_cR C0 G (g_runV C0 G (rest := []) (c_X8_rowAt1 hfl (A := A) (b := b) (b2 := b2) (xea := xea) (xra := xra) (xkr := xkr) h_x) h_x rfl hY_X8_rowAt mm_X8_278 mi_X8_rowAt ml_X8_rowAt ⟨(Nat.le_of_ble_eq_true rfl), (Nat.le_of_ble_eq_true rfl)⟩ rfl hl.1 rfl (Nat.le_of_ble_eq_true rfl) dX8_copyOvers_14 ⟨(Nat.le_of_ble_eq_true rfl), (Nat.le_of_ble_eq_true rfl)⟩) (kx_no rfl) (fun a19 u18 H locs hp17 G => ?_)
  obtain ⟨er20, eu18⟩ := hp17
  have ser20 := er20.symm
  subst ser20
  rw [eu18] at G
  refine lv_astore (lv' := [(4, .ref ro), (3, .ref rz), (0, .ref x), (1, .int 0), (2, .int (nI cn))]) hx hb dX8_copyOvers_17 hl (by decide) rfl (fun ls hl => ?_)
  refine lv_aload_n hx hb dX8_copyOvers_19 rfl (lv_at hl 1 rfl) ?_
  refine g_get C0 G h_rz rfl hiX4 1 (by decide) mf_X8_286 rfl dX8_copyOvers_20 ?_
  refine lv_if_eq (tgt := 34) hx hb dX8_copyOvers_23 (by decide) (fun c21 => absurd c21 (w0)) (fun _ => ?_)
  refine lv_aload hx hb dX8_copyOvers_26 (lv_at hl 0 rfl) ?_
  refine g_get C0 G h_ro rfl hiX4 1 (by decide) mf_X8_286 rfl dX8_copyOvers_28 ?_
  refine lv_if_ne (tgt := 45) hx hb dX8_copyOvers_31 (by decide) (fun _ => ?_) (fun c22 => absurd c22 (w1))
  refine lv_aload_n hx hb dX8_copyOvers_45 rfl (lv_at hl 1 rfl) ?_
  refine g_get C0 G h_rz rfl hiX4 2 (by decide) mf_X8_292 rfl dX8_copyOvers_46 ?_
  refine lv_aload hx hb dX8_copyOvers_49 (lv_at hl 0 rfl) ?_
  refine g_get C0 G h_ro rfl hiX4 2 (by decide) mf_X8_292 rfl dX8_copyOvers_51 ?_
  refine lv_icmp_eq (tgt := 68) hx hb dX8_copyOvers_54 (by decide) (fun _ => ?_) (fun c23 => absurd (w2) c23)
  refine lv_iload_n hx hb dX8_copyOvers_68 rfl (lv_at hl 4 rfl) ?_
  refine lv_if_lt (tgt := 89) hx hb dX8_copyOvers_69 (by decide) (fun c24 => absurd c24 ((Int32.not_lt.mpr w3))) (fun _ => ?_)
  refine lv_iload_n hx hb dX8_copyOvers_72 rfl (lv_at hl 4 rfl) ?_
  refine lv_aload_n hx hb dX8_copyOvers_73 rfl (lv_at hl 1 rfl) ?_
  refine g_get C0 G h_rz rfl hiX4 3 (by decide) mf_X8_297 rfl dX8_copyOvers_74 ?_
  refine lv_icmp_gt (tgt := 89) hx hb dX8_copyOvers_77 (by decide) (fun c25 => absurd c25 ((Int32.not_lt.mpr w4))) (fun _ => ?_)
  refine lv_iload_n hx hb dX8_copyOvers_80 rfl (lv_at hl 4 rfl) ?_
  refine lv_aload hx hb dX8_copyOvers_81 (lv_at hl 0 rfl) ?_
  refine g_get C0 G h_ro rfl hiX4 3 (by decide) mf_X8_297 rfl dX8_copyOvers_83 ?_
  refine lv_icmp_le (tgt := 100) hx hb dX8_copyOvers_86 (by decide) (fun _ => ?_) (fun c26 => absurd (w5) c26)
  refine lv_aload hx hb dX8_copyOvers_100 (lv_at hl 0 rfl) ?_
  refine lv_aload_n hx hb dX8_copyOvers_102 rfl (lv_at hl 1 rfl) ?_
  refine lv_iload_n hx hb dX8_copyOvers_103 rfl (lv_at hl 4 rfl) ?_
  refine g_cI C0 G (g_runV C0 G (rest := []) (c_X4_take hfl (rst := ost) (rex := oex) (rln := oln) (rst_o := zst) (rex_o := zex) (rln_o := zln) (cn := cn) (gf := gy) (gf_o := gz) h_ro h_fo h_rz h_fz (by omega) hcn) h_ro rfl hY_X4_take mm_X8_302 mi_X4_take ml_X4_take ⟨(Nat.le_of_ble_eq_true rfl), (Nat.le_of_ble_eq_true rfl)⟩ rfl hl.1 rfl (Nat.le_of_ble_eq_true rfl) dX8_copyOvers_104 ⟨(Nat.le_of_ble_eq_true rfl), (Nat.le_of_ble_eq_true rfl)⟩) (kx_no rfl) (fun r29 u28 H locs hp27 G => ?_)
  obtain ⟨er30, k31, fr32⟩ := hp27
  refine lv_topv (v := (tkC gy gz cn)) er30 ?_
  exact g_zret C0 G hr dX8_copyOvers_107 (hZb (b_c_X4_take cn gy gz)) (Nat.le_of_ble_eq_true rfl) (Nat.le_of_ble_eq_true rfl) (by exact ⟨rfl, (by rw [(by rw [X8_copyOversY0_g0] : (X8_copyOversY0_g0 gz gy cn) = (X4_take_g2 cn gy gz))]; exact k31), (fun a9 e9 h7 h8 => fr32 _ _ (fun q => h7 (by simp only [List.mem_cons, List.not_mem_nil, or_false] at q ⊢; first | exact q | (rcases q with q <;> simp [q]) | omega)) (h8))⟩)
theorem b_c_X8_copyOversY0 (gz : Nat → UInt32) (gy : Nat → UInt32) (cn : Nat) : (tkC gy gz cn) = 0 ∨ (tkC gy gz cn) = 1 := (b_c_X4_take cn gy gz)
set_option maxRecDepth 100000 in
theorem c_X8_storedOversE0 {l : Launch} (hfl : l.stackTraces = false) {D : va_G} {cy : Nat → ClassId} {f : Hf} {sz : Nat} {x : Nat} {rz : Nat} {fz : Nat} {A : Nat → Nat} {b : Nat} {b2 : Nat} {lg : Nat} {lg_o : Nat} {tx : Nat} {ro : Nat} {xea : Int32} {xra : Int32} {xkr : Int32} {zst : Int32} {zex : Int32} {zln : Int32} {gz : Nat → UInt32} (ix : Int32) (h_x : f x = some (.inr (10, [.ref (A (b + 0)), .ref (A (b2 + 0)), .ref lg, .ref lg_o, .ref tx, .ref rz, .ref ro, .int xea, .int xra, .int xkr]))) (h_rz : f rz = some (.inr (6, [.ref fz, .int zst, .int zex, .int zln]))) (h_fz : f fz = some (.inl (cy 2, 20, .inr (.inr (.inl gz))))) (v0 : ¬ (X8_isWithin_x1 0 0 1) = 0) (w0 : (X4_has_x2 zst zln ix) = 0) : hMet l yX8_storedOvers cX8_storedOvers 3 (some .float) { frames := 6, cells := 1, slots := 6, locals := 82 } D (hTy cy) f sz [.ref x, .int 0, .int ix] (hQf (fun r u => False) D f sz) (fun E u => E = "java/util/NoSuchElementException" ∧ u = f) := by
  refine h_enter (by decide) hfl (Nat.le_of_ble_eq_true rfl) ?_
  intro p9 e9 s9 m9 b9 t9 c9 hsz C0 hr hnm G ls hl
  have hx := C0.1.1
  have hb := C0.1.2.1
  have hl : lv_has ls 3 [(0, .ref x), (1, .int 0), (2, .int ix)] := hl
  refine lv_iload_n hx hb dX8_storedOvers_0 rfl (lv_at hl 1 rfl) ?_
  refine g_cV C0 G (g_runS C0 G (rest := []) (c_X8_demandRowO hfl 0  v0) hY_X8_demandRow mm_X8_275 ms_X8_demandRow ⟨(Nat.le_of_ble_eq_true rfl), (Nat.le_of_ble_eq_true rfl)⟩ rfl hl.1 rfl (Nat.le_of_ble_eq_true rfl) dX8_storedOvers_1 ⟨(Nat.le_of_ble_eq_true rfl), (Nat.le_of_ble_eq_true rfl)⟩) (kx_no rfl) (fun u12 H locs hp11 G => ?_)
  have eu12 := hp11
  rw [eu12] at G
  refine lv_aload_n hx hb dX8_storedOvers_4 rfl (lv_at hl 0 rfl) ?_
  refine lv_iload_n hx hb dX8_storedOvers_5 rfl (lv_at hl 1 rfl) ?_
  refine g_cR C0 G (g_runV C0 G (rest := []) (c_X8_rowAt0 hfl (A := A) (b := b) (b2 := b2) (xea := xea) (xra := xra) (xkr := xkr) h_x) h_x rfl hY_X8_rowAt mm_X8_278 mi_X8_rowAt ml_X8_rowAt ⟨(Nat.le_of_ble_eq_true rfl), (Nat.le_of_ble_eq_true rfl)⟩ rfl hl.1 rfl (Nat.le_of_ble_eq_true rfl) dX8_storedOvers_6 ⟨(Nat.le_of_ble_eq_true rfl), (Nat.le_of_ble_eq_true rfl)⟩) (kx_no rfl) (fun a15 u14 H locs hp13 G => ?_)
  obtain ⟨er16, eu14⟩ := hp13
  have ser16 := er16.symm
  subst ser16
  rw [eu14] at G
  refine lv_iload_n hx hb dX8_storedOvers_9 rfl (lv_at hl 2 rfl) ?_
  refine g_cI C0 G (g_runV C0 G (rest := []) (c_X4_has hfl (rst := zst) (rex := zex) (rln := zln) ix h_rz) h_rz rfl hY_X4_has mm_X8_306 mi_X4_has ml_X4_has ⟨(Nat.le_of_ble_eq_true rfl), (Nat.le_of_ble_eq_true rfl)⟩ rfl hl.1 rfl (Nat.le_of_ble_eq_true rfl) dX8_storedOvers_10 ⟨(Nat.le_of_ble_eq_true rfl), (Nat.le_of_ble_eq_true rfl)⟩) (kx_no rfl) (fun r19 u18 H locs hp17 G => ?_)
  obtain ⟨er20, eu18⟩ := hp17
  rw [eu18] at G
  refine lv_topv (v := (X4_has_x2 zst zln ix)) er20 ?_
  refine lv_if_ne (tgt := 27) hx hb dX8_storedOvers_13 (by decide) (fun c21 => absurd (w0) c21) (fun _ => ?_)
  exact g_throwNW C0 G mk_X8_185 mz_java_util_NoSuchElementException (is := 309) (text := "no such element") (by decide) hl.1 dX8_storedOvers_16 dX8_storedOvers_19 ⟨dX8_storedOvers_20, dX8_storedOvers_23, dX8_storedOvers_26⟩ ⟨(Nat.le_of_ble_eq_true rfl), (Nat.le_of_ble_eq_true rfl)⟩ ⟨(Nat.le_of_ble_eq_true rfl), (Nat.le_of_ble_eq_true rfl)⟩ (Nat.le_of_ble_eq_true rfl) (Nat.le_of_ble_eq_true rfl) (by exact ⟨rfl, rfl⟩)
set_option maxRecDepth 100000 in
theorem c_X8_storedOversY0 {l : Launch} (hfl : l.stackTraces = false) {D : va_G} {cy : Nat → ClassId} {f : Hf} {sz : Nat} {x : Nat} {rz : Nat} {fz : Nat} {A : Nat → Nat} {b : Nat} {b2 : Nat} {lg : Nat} {lg_o : Nat} {tx : Nat} {ro : Nat} {xea : Int32} {xra : Int32} {xkr : Int32} {zst : Int32} {zex : Int32} {zln : Int32} {gz : Nat → UInt32} {kx : Nat} (h_x : f x = some (.inr (10, [.ref (A (b + 0)), .ref (A (b2 + 0)), .ref lg, .ref lg_o, .ref tx, .ref rz, .ref ro, .int xea, .int xra, .int xkr]))) (h_rz : f rz = some (.inr (6, [.ref fz, .int zst, .int zex, .int zln]))) (h_fz : f fz = some (.inl (cy 2, 20, .inr (.inr (.inl gz))))) (v0 : ¬ (X8_isWithin_x1 0 0 1) = 0) (w0 : ¬ (X4_has_x2 zst zln (nI kx)) = 0) (hkx : kx < 20) : hMet l yX8_storedOvers cX8_storedOvers 3 (some .float) { frames := 2, cells := 0, slots := 0, locals := 42 } D (hTy cy) f sz [.ref x, .int 0, .int (nI kx)] (hQf (fun r u => r = (X4_get_r0 kx gz) ∧ u = f) D f sz) hNo := by
  refine h_enter (by decide) hfl (Nat.le_of_ble_eq_true rfl) ?_
  intro p9 e9 s9 m9 b9 t9 c9 hsz C0 hr hnm G ls hl
  have hx := C0.1.1
  have hb := C0.1.2.1
  have hl : lv_has ls 3 [(0, .ref x), (1, .int 0), (2, .int (nI kx))] := hl
  refine lv_iload_n hx hb dX8_storedOvers_0 rfl (lv_at hl 1 rfl) ?_
  refine g_cV C0 G (g_runS C0 G (rest := []) (c_X8_demandRowO hfl 0  v0) hY_X8_demandRow mm_X8_275 ms_X8_demandRow ⟨(Nat.le_of_ble_eq_true rfl), (Nat.le_of_ble_eq_true rfl)⟩ rfl hl.1 rfl (Nat.le_of_ble_eq_true rfl) dX8_storedOvers_1 ⟨(Nat.le_of_ble_eq_true rfl), (Nat.le_of_ble_eq_true rfl)⟩) (kx_no rfl) (fun u12 H locs hp11 G => ?_)
  have eu12 := hp11
  rw [eu12] at G
  refine lv_aload_n hx hb dX8_storedOvers_4 rfl (lv_at hl 0 rfl) ?_
  refine lv_iload_n hx hb dX8_storedOvers_5 rfl (lv_at hl 1 rfl) ?_
  refine g_cR C0 G (g_runV C0 G (rest := []) (c_X8_rowAt0 hfl (A := A) (b := b) (b2 := b2) (xea := xea) (xra := xra) (xkr := xkr) h_x) h_x rfl hY_X8_rowAt mm_X8_278 mi_X8_rowAt ml_X8_rowAt ⟨(Nat.le_of_ble_eq_true rfl), (Nat.le_of_ble_eq_true rfl)⟩ rfl hl.1 rfl (Nat.le_of_ble_eq_true rfl) dX8_storedOvers_6 ⟨(Nat.le_of_ble_eq_true rfl), (Nat.le_of_ble_eq_true rfl)⟩) (kx_no rfl) (fun a15 u14 H locs hp13 G => ?_)
  obtain ⟨er16, eu14⟩ := hp13
  have ser16 := er16.symm
  subst ser16
  rw [eu14] at G
  refine lv_iload_n hx hb dX8_storedOvers_9 rfl (lv_at hl 2 rfl) ?_
  refine g_cI C0 G (g_runV C0 G (rest := []) (c_X4_has hfl (rst := zst) (rex := zex) (rln := zln) (nI kx) h_rz) h_rz rfl hY_X4_has mm_X8_306 mi_X4_has ml_X4_has ⟨(Nat.le_of_ble_eq_true rfl), (Nat.le_of_ble_eq_true rfl)⟩ rfl hl.1 rfl (Nat.le_of_ble_eq_true rfl) dX8_storedOvers_10 ⟨(Nat.le_of_ble_eq_true rfl), (Nat.le_of_ble_eq_true rfl)⟩) (kx_no rfl) (fun r19 u18 H locs hp17 G => ?_)
  obtain ⟨er20, eu18⟩ := hp17
  rw [eu18] at G
  refine lv_topv (v := (X4_has_x2 zst zln (nI kx))) er20 ?_
  refine lv_if_ne (tgt := 27) hx hb dX8_storedOvers_13 (by decide) (fun _ => ?_) (fun c21 => absurd c21 (w0))
  refine lv_aload_n hx hb dX8_storedOvers_27 rfl (lv_at hl 0 rfl) ?_
  refine lv_iload_n hx hb dX8_storedOvers_28 rfl (lv_at hl 1 rfl) ?_
  refine g_cR C0 G (g_runV C0 G (rest := []) (c_X8_rowAt0 hfl (A := A) (b := b) (b2 := b2) (xea := xea) (xra := xra) (xkr := xkr) h_x) h_x rfl hY_X8_rowAt mm_X8_278 mi_X8_rowAt ml_X8_rowAt ⟨(Nat.le_of_ble_eq_true rfl), (Nat.le_of_ble_eq_true rfl)⟩ rfl hl.1 rfl (Nat.le_of_ble_eq_true rfl) dX8_storedOvers_29 ⟨(Nat.le_of_ble_eq_true rfl), (Nat.le_of_ble_eq_true rfl)⟩) (kx_no rfl) (fun a24 u23 H locs hp22 G => ?_)
  obtain ⟨er25, eu23⟩ := hp22
  have ser25 := er25.symm
  subst ser25
  rw [eu23] at G
  refine lv_iload_n hx hb dX8_storedOvers_32 rfl (lv_at hl 2 rfl) ?_
  refine g_cF C0 G (g_runV C0 G (rest := []) (c_X4_get hfl (rst := zst) (rex := zex) (rln := zln) (kx := kx) (gf := gz) h_rz h_fz hkx) h_rz rfl hY_X4_get mm_X8_311 mi_X4_get ml_X4_get ⟨(Nat.le_of_ble_eq_true rfl), (Nat.le_of_ble_eq_true rfl)⟩ rfl hl.1 rfl (Nat.le_of_ble_eq_true rfl) dX8_storedOvers_33 ⟨(Nat.le_of_ble_eq_true rfl), (Nat.le_of_ble_eq_true rfl)⟩) (kx_no rfl) (fun r28 u27 H locs hp26 G => ?_)
  obtain ⟨zr, eu27⟩ := hp26
  replace zr := Eq.symm zr
  subst zr
  rw [eu27] at G
  exact g_fret C0 G hr dX8_storedOvers_36 (Nat.le_of_ble_eq_true rfl) (Nat.le_of_ble_eq_true rfl) (by exact ⟨rfl, rfl⟩)
set_option maxRecDepth 100000 in
theorem c_X8_copyOversE2a1 {l : Launch} (hfl : l.stackTraces = false) {D : va_G} {cy : Nat → ClassId} {f : Hf} {sz : Nat} {x : Nat} {rz : Nat} {fz : Nat} {ro : Nat} {fo : Nat} {A : Nat → Nat} {b : Nat} {b2 : Nat} {lg : Nat} {lg_o : Nat} {tx : Nat} {xea : Int32} {xra : Int32} {xkr : Int32} {zst : Int32} {zex : Int32} {zln : Int32} {gz : Nat → UInt32} {ost : Int32} {oex : Int32} {oln : Int32} {gy : Nat → UInt32} (cnt : Int32) (h_x : f x = some (.inr (10, [.ref (A (b + 0)), .ref (A (b2 + 0)), .ref lg, .ref lg_o, .ref tx, .ref rz, .ref ro, .int xea, .int xra, .int xkr]))) (h_rz : f rz = some (.inr (6, [.ref fz, .int zst, .int zex, .int zln]))) (h_fz : f fz = some (.inl (cy 2, 20, .inr (.inr (.inl gz))))) (h_ro : f ro = some (.inr (6, [.ref fo, .int ost, .int oex, .int oln]))) (h_fo : f fo = some (.inl (cy 2, 20, .inr (.inr (.inl gy))))) (v0 : ¬ (X8_isWithin_x1 1 0 1) = 0) (w0 : ost = 0) : hMet l yX8_copyOvers cX8_copyOvers 5 (some .boolean) { frames := 6, cells := 1, slots := 6, locals := 82 } D (hTy cy) f sz [.ref x, .int 1, .int cnt] (hQi (fun r u => False) D f sz) (fun E u => E = "java/util/NoSuchElementException" ∧ u = f) := by
  refine h_enter (by decide) hfl (Nat.le_of_ble_eq_true rfl) ?_
  intro p9 e9 s9 m9 b9 t9 c9 hsz C0 hr hnm G ls hl
  have hx := C0.1.1
  have hb := C0.1.2.1
  have hl : lv_has ls 5 [(0, .ref x), (1, .int 1), (2, .int cnt)] := hl
  refine lv_iload_n hx hb dX8_copyOvers_0 rfl (lv_at hl 1 rfl) ?_
  refine g_cV C0 G (g_runS C0 G (rest := []) (c_X8_demandRowO hfl 1  v0) hY_X8_demandRow mm_X8_275 ms_X8_demandRow ⟨(Nat.le_of_ble_eq_true rfl), (Nat.le_of_ble_eq_true rfl)⟩ rfl hl.1 rfl (Nat.le_of_ble_eq_true rfl) dX8_copyOvers_1 ⟨(Nat.le_of_ble_eq_true rfl), (Nat.le_of_ble_eq_true rfl)⟩) (kx_no rfl) (fun u12 H locs hp11 G => ?_)
  have eu12 := hp11
  rw [eu12] at G
  refine lv_aload_n hx hb dX8_copyOvers_4 rfl (lv_at hl 0 rfl) ?_
  refine lv_iload_n hx hb dX8_copyOvers_5 rfl (lv_at hl 1 rfl) ?_
  refine g_cR C0 G (g_runV C0 G (rest := []) (c_X8_rowAt1 hfl (A := A) (b := b) (b2 := b2) (xea := xea) (xra := xra) (xkr := xkr) h_x) h_x rfl hY_X8_rowAt mm_X8_278 mi_X8_rowAt ml_X8_rowAt ⟨(Nat.le_of_ble_eq_true rfl), (Nat.le_of_ble_eq_true rfl)⟩ rfl hl.1 rfl (Nat.le_of_ble_eq_true rfl) dX8_copyOvers_6 ⟨(Nat.le_of_ble_eq_true rfl), (Nat.le_of_ble_eq_true rfl)⟩) (kx_no rfl) (fun a15 u14 H locs hp13 G => ?_)
  obtain ⟨er16, eu14⟩ := hp13
  have ser16 := er16.symm
  subst ser16
  rw [eu14] at G
  refine lv_astore_n (lv' := [(3, .ref ro), (0, .ref x), (1, .int 1), (2, .int cnt)]) hx hb dX8_copyOvers_9 rfl hl (by decide) rfl (fun ls hl => ?_)
  refine lv_aload_n hx hb dX8_copyOvers_10 rfl (lv_at hl 1 rfl) ?_
  refine lv_iconst (v := 1) hx hb dX8_copyOvers_11 (by decide) ?_
  refine lv_iload_n hx hb dX8_copyOvers_12 rfl (lv_at hl 2 rfl) ?_
  refine lv_isub hx hb dX8_copyOvers_13 ?_
  refine lv_topv (v := 0) (by decide) ?_
  refine g_cR C0 G (g_runV C0 G (rest := []) (c_X8_rowAt0 hfl (A := A) (b := b) (b2 := b2) (xea := xea) (xra := xra) (xkr := xkr) h_x) h_x rfl hY_X8_rowAt mm_X8_278 mi_X8_rowAt ml_X8_rowAt ⟨(Nat.le_of_ble_eq_true rfl), (Nat.le_of_ble_eq_true rfl)⟩ rfl hl.1 rfl (Nat.le_of_ble_eq_true rfl) dX8_copyOvers_14 ⟨(Nat.le_of_ble_eq_true rfl), (Nat.le_of_ble_eq_true rfl)⟩) (kx_no rfl) (fun a19 u18 H locs hp17 G => ?_)
  obtain ⟨er20, eu18⟩ := hp17
  have ser20 := er20.symm
  subst ser20
  rw [eu18] at G
  refine lv_astore (lv' := [(4, .ref rz), (3, .ref ro), (0, .ref x), (1, .int 1), (2, .int cnt)]) hx hb dX8_copyOvers_17 hl (by decide) rfl (fun ls hl => ?_)
  refine lv_aload_n hx hb dX8_copyOvers_19 rfl (lv_at hl 1 rfl) ?_
  refine g_get C0 G h_ro rfl hiX4 1 (by decide) mf_X8_286 rfl dX8_copyOvers_20 ?_
  refine lv_if_eq (tgt := 34) hx hb dX8_copyOvers_23 (by decide) (fun _ => ?_) (fun c21 => absurd (w0) c21)
  exact g_throwNW C0 G mk_X8_185 mz_java_util_NoSuchElementException (is := 290) (text := "a row was not stored yet") (by decide) hl.1 dX8_copyOvers_34 dX8_copyOvers_37 ⟨dX8_copyOvers_38, dX8_copyOvers_41, dX8_copyOvers_44⟩ ⟨(Nat.le_of_ble_eq_true rfl), (Nat.le_of_ble_eq_true rfl)⟩ ⟨(Nat.le_of_ble_eq_true rfl), (Nat.le_of_ble_eq_true rfl)⟩ (Nat.le_of_ble_eq_true rfl) (Nat.le_of_ble_eq_true rfl) (by exact ⟨rfl, rfl⟩)
set_option maxRecDepth 100000 in
theorem c_X8_copyOversE2b1 {l : Launch} (hfl : l.stackTraces = false) {D : va_G} {cy : Nat → ClassId} {f : Hf} {sz : Nat} {x : Nat} {rz : Nat} {fz : Nat} {ro : Nat} {fo : Nat} {A : Nat → Nat} {b : Nat} {b2 : Nat} {lg : Nat} {lg_o : Nat} {tx : Nat} {xea : Int32} {xra : Int32} {xkr : Int32} {zst : Int32} {zex : Int32} {zln : Int32} {gz : Nat → UInt32} {ost : Int32} {oex : Int32} {oln : Int32} {gy : Nat → UInt32} (cnt : Int32) (h_x : f x = some (.inr (10, [.ref (A (b + 0)), .ref (A (b2 + 0)), .ref lg, .ref lg_o, .ref tx, .ref rz, .ref ro, .int xea, .int xra, .int xkr]))) (h_rz : f rz = some (.inr (6, [.ref fz, .int zst, .int zex, .int zln]))) (h_fz : f fz = some (.inl (cy 2, 20, .inr (.inr (.inl gz))))) (h_ro : f ro = some (.inr (6, [.ref fo, .int ost, .int oex, .int oln]))) (h_fo : f fo = some (.inl (cy 2, 20, .inr (.inr (.inl gy))))) (v0 : ¬ (X8_isWithin_x1 1 0 1) = 0) (w0 : ¬ ost = 0) (w1 : zst = 0) : hMet l yX8_copyOvers cX8_copyOvers 5 (some .boolean) { frames := 6, cells := 1, slots := 6, locals := 82 } D (hTy cy) f sz [.ref x, .int 1, .int cnt] (hQi (fun r u => False) D f sz) (fun E u => E = "java/util/NoSuchElementException" ∧ u = f) := by
  refine h_enter (by decide) hfl (Nat.le_of_ble_eq_true rfl) ?_
  intro p9 e9 s9 m9 b9 t9 c9 hsz C0 hr hnm G ls hl
  have hx := C0.1.1
  have hb := C0.1.2.1
  have hl : lv_has ls 5 [(0, .ref x), (1, .int 1), (2, .int cnt)] := hl
  refine lv_iload_n hx hb dX8_copyOvers_0 rfl (lv_at hl 1 rfl) ?_
  refine g_cV C0 G (g_runS C0 G (rest := []) (c_X8_demandRowO hfl 1  v0) hY_X8_demandRow mm_X8_275 ms_X8_demandRow ⟨(Nat.le_of_ble_eq_true rfl), (Nat.le_of_ble_eq_true rfl)⟩ rfl hl.1 rfl (Nat.le_of_ble_eq_true rfl) dX8_copyOvers_1 ⟨(Nat.le_of_ble_eq_true rfl), (Nat.le_of_ble_eq_true rfl)⟩) (kx_no rfl) (fun u12 H locs hp11 G => ?_)
  have eu12 := hp11
  rw [eu12] at G
  refine lv_aload_n hx hb dX8_copyOvers_4 rfl (lv_at hl 0 rfl) ?_
  refine lv_iload_n hx hb dX8_copyOvers_5 rfl (lv_at hl 1 rfl) ?_
  refine g_cR C0 G (g_runV C0 G (rest := []) (c_X8_rowAt1 hfl (A := A) (b := b) (b2 := b2) (xea := xea) (xra := xra) (xkr := xkr) h_x) h_x rfl hY_X8_rowAt mm_X8_278 mi_X8_rowAt ml_X8_rowAt ⟨(Nat.le_of_ble_eq_true rfl), (Nat.le_of_ble_eq_true rfl)⟩ rfl hl.1 rfl (Nat.le_of_ble_eq_true rfl) dX8_copyOvers_6 ⟨(Nat.le_of_ble_eq_true rfl), (Nat.le_of_ble_eq_true rfl)⟩) (kx_no rfl) (fun a15 u14 H locs hp13 G => ?_)
  obtain ⟨er16, eu14⟩ := hp13
  have ser16 := er16.symm
  subst ser16
  rw [eu14] at G
  refine lv_astore_n (lv' := [(3, .ref ro), (0, .ref x), (1, .int 1), (2, .int cnt)]) hx hb dX8_copyOvers_9 rfl hl (by decide) rfl (fun ls hl => ?_)
  refine lv_aload_n hx hb dX8_copyOvers_10 rfl (lv_at hl 1 rfl) ?_
  refine lv_iconst (v := 1) hx hb dX8_copyOvers_11 (by decide) ?_
  refine lv_iload_n hx hb dX8_copyOvers_12 rfl (lv_at hl 2 rfl) ?_
  refine lv_isub hx hb dX8_copyOvers_13 ?_
  refine lv_topv (v := 0) (by decide) ?_
  refine g_cR C0 G (g_runV C0 G (rest := []) (c_X8_rowAt0 hfl (A := A) (b := b) (b2 := b2) (xea := xea) (xra := xra) (xkr := xkr) h_x) h_x rfl hY_X8_rowAt mm_X8_278 mi_X8_rowAt ml_X8_rowAt ⟨(Nat.le_of_ble_eq_true rfl), (Nat.le_of_ble_eq_true rfl)⟩ rfl hl.1 rfl (Nat.le_of_ble_eq_true rfl) dX8_copyOvers_14 ⟨(Nat.le_of_ble_eq_true rfl), (Nat.le_of_ble_eq_true rfl)⟩) (kx_no rfl) (fun a19 u18 H locs hp17 G => ?_)
  obtain ⟨er20, eu18⟩ := hp17
  have ser20 := er20.symm
  subst ser20
  rw [eu18] at G
  refine lv_astore (lv' := [(4, .ref rz), (3, .ref ro), (0, .ref x), (1, .int 1), (2, .int cnt)]) hx hb dX8_copyOvers_17 hl (by decide) rfl (fun ls hl => ?_)
  refine lv_aload_n hx hb dX8_copyOvers_19 rfl (lv_at hl 1 rfl) ?_
  refine g_get C0 G h_ro rfl hiX4 1 (by decide) mf_X8_286 rfl dX8_copyOvers_20 ?_
  refine lv_if_eq (tgt := 34) hx hb dX8_copyOvers_23 (by decide) (fun c21 => absurd c21 (w0)) (fun _ => ?_)
  refine lv_aload hx hb dX8_copyOvers_26 (lv_at hl 0 rfl) ?_
  refine g_get C0 G h_rz rfl hiX4 1 (by decide) mf_X8_286 rfl dX8_copyOvers_28 ?_
  refine lv_if_ne (tgt := 45) hx hb dX8_copyOvers_31 (by decide) (fun c22 => absurd (w1) c22) (fun _ => ?_)
  exact g_throwNW C0 G mk_X8_185 mz_java_util_NoSuchElementException (is := 290) (text := "a row was not stored yet") (by decide) hl.1 dX8_copyOvers_34 dX8_copyOvers_37 ⟨dX8_copyOvers_38, dX8_copyOvers_41, dX8_copyOvers_44⟩ ⟨(Nat.le_of_ble_eq_true rfl), (Nat.le_of_ble_eq_true rfl)⟩ ⟨(Nat.le_of_ble_eq_true rfl), (Nat.le_of_ble_eq_true rfl)⟩ (Nat.le_of_ble_eq_true rfl) (Nat.le_of_ble_eq_true rfl) (by exact ⟨rfl, rfl⟩)
set_option maxRecDepth 100000 in
theorem c_X8_copyOversE31 {l : Launch} (hfl : l.stackTraces = false) {D : va_G} {cy : Nat → ClassId} {f : Hf} {sz : Nat} {x : Nat} {rz : Nat} {fz : Nat} {ro : Nat} {fo : Nat} {A : Nat → Nat} {b : Nat} {b2 : Nat} {lg : Nat} {lg_o : Nat} {tx : Nat} {xea : Int32} {xra : Int32} {xkr : Int32} {zst : Int32} {zex : Int32} {zln : Int32} {gz : Nat → UInt32} {ost : Int32} {oex : Int32} {oln : Int32} {gy : Nat → UInt32} (cnt : Int32) (h_x : f x = some (.inr (10, [.ref (A (b + 0)), .ref (A (b2 + 0)), .ref lg, .ref lg_o, .ref tx, .ref rz, .ref ro, .int xea, .int xra, .int xkr]))) (h_rz : f rz = some (.inr (6, [.ref fz, .int zst, .int zex, .int zln]))) (h_fz : f fz = some (.inl (cy 2, 20, .inr (.inr (.inl gz))))) (h_ro : f ro = some (.inr (6, [.ref fo, .int ost, .int oex, .int oln]))) (h_fo : f fo = some (.inl (cy 2, 20, .inr (.inr (.inl gy))))) (v0 : ¬ (X8_isWithin_x1 1 0 1) = 0) (w0 : ¬ ost = 0) (w1 : ¬ zst = 0) (w2 : ¬ oex = zex) : hMet l yX8_copyOvers cX8_copyOvers 5 (some .boolean) { frames := 6, cells := 1, slots := 6, locals := 82 } D (hTy cy) f sz [.ref x, .int 1, .int cnt] (hQi (fun r u => False) D f sz) (fun E u => E = "java/lang/UnsupportedOperationException" ∧ u = f) := by
  refine h_enter (by decide) hfl (Nat.le_of_ble_eq_true rfl) ?_
  intro p9 e9 s9 m9 b9 t9 c9 hsz C0 hr hnm G ls hl
  have hx := C0.1.1
  have hb := C0.1.2.1
  have hl : lv_has ls 5 [(0, .ref x), (1, .int 1), (2, .int cnt)] := hl
  refine lv_iload_n hx hb dX8_copyOvers_0 rfl (lv_at hl 1 rfl) ?_
  refine g_cV C0 G (g_runS C0 G (rest := []) (c_X8_demandRowO hfl 1  v0) hY_X8_demandRow mm_X8_275 ms_X8_demandRow ⟨(Nat.le_of_ble_eq_true rfl), (Nat.le_of_ble_eq_true rfl)⟩ rfl hl.1 rfl (Nat.le_of_ble_eq_true rfl) dX8_copyOvers_1 ⟨(Nat.le_of_ble_eq_true rfl), (Nat.le_of_ble_eq_true rfl)⟩) (kx_no rfl) (fun u12 H locs hp11 G => ?_)
  have eu12 := hp11
  rw [eu12] at G
  refine lv_aload_n hx hb dX8_copyOvers_4 rfl (lv_at hl 0 rfl) ?_
  refine lv_iload_n hx hb dX8_copyOvers_5 rfl (lv_at hl 1 rfl) ?_
  refine g_cR C0 G (g_runV C0 G (rest := []) (c_X8_rowAt1 hfl (A := A) (b := b) (b2 := b2) (xea := xea) (xra := xra) (xkr := xkr) h_x) h_x rfl hY_X8_rowAt mm_X8_278 mi_X8_rowAt ml_X8_rowAt ⟨(Nat.le_of_ble_eq_true rfl), (Nat.le_of_ble_eq_true rfl)⟩ rfl hl.1 rfl (Nat.le_of_ble_eq_true rfl) dX8_copyOvers_6 ⟨(Nat.le_of_ble_eq_true rfl), (Nat.le_of_ble_eq_true rfl)⟩) (kx_no rfl) (fun a15 u14 H locs hp13 G => ?_)
  obtain ⟨er16, eu14⟩ := hp13
  have ser16 := er16.symm
  subst ser16
  rw [eu14] at G
  refine lv_astore_n (lv' := [(3, .ref ro), (0, .ref x), (1, .int 1), (2, .int cnt)]) hx hb dX8_copyOvers_9 rfl hl (by decide) rfl (fun ls hl => ?_)
  refine lv_aload_n hx hb dX8_copyOvers_10 rfl (lv_at hl 1 rfl) ?_
  refine lv_iconst (v := 1) hx hb dX8_copyOvers_11 (by decide) ?_
  refine lv_iload_n hx hb dX8_copyOvers_12 rfl (lv_at hl 2 rfl) ?_
  refine lv_isub hx hb dX8_copyOvers_13 ?_
  refine lv_topv (v := 0) (by decide) ?_
  refine g_cR C0 G (g_runV C0 G (rest := []) (c_X8_rowAt0 hfl (A := A) (b := b) (b2 := b2) (xea := xea) (xra := xra) (xkr := xkr) h_x) h_x rfl hY_X8_rowAt mm_X8_278 mi_X8_rowAt ml_X8_rowAt ⟨(Nat.le_of_ble_eq_true rfl), (Nat.le_of_ble_eq_true rfl)⟩ rfl hl.1 rfl (Nat.le_of_ble_eq_true rfl) dX8_copyOvers_14 ⟨(Nat.le_of_ble_eq_true rfl), (Nat.le_of_ble_eq_true rfl)⟩) (kx_no rfl) (fun a19 u18 H locs hp17 G => ?_)
  obtain ⟨er20, eu18⟩ := hp17
  have ser20 := er20.symm
  subst ser20
  rw [eu18] at G
  refine lv_astore (lv' := [(4, .ref rz), (3, .ref ro), (0, .ref x), (1, .int 1), (2, .int cnt)]) hx hb dX8_copyOvers_17 hl (by decide) rfl (fun ls hl => ?_)
  refine lv_aload_n hx hb dX8_copyOvers_19 rfl (lv_at hl 1 rfl) ?_
  refine g_get C0 G h_ro rfl hiX4 1 (by decide) mf_X8_286 rfl dX8_copyOvers_20 ?_
  refine lv_if_eq (tgt := 34) hx hb dX8_copyOvers_23 (by decide) (fun c21 => absurd c21 (w0)) (fun _ => ?_)
  refine lv_aload hx hb dX8_copyOvers_26 (lv_at hl 0 rfl) ?_
  refine g_get C0 G h_rz rfl hiX4 1 (by decide) mf_X8_286 rfl dX8_copyOvers_28 ?_
  refine lv_if_ne (tgt := 45) hx hb dX8_copyOvers_31 (by decide) (fun _ => ?_) (fun c22 => absurd c22 (w1))
  refine lv_aload_n hx hb dX8_copyOvers_45 rfl (lv_at hl 1 rfl) ?_
  refine g_get C0 G h_ro rfl hiX4 2 (by decide) mf_X8_292 rfl dX8_copyOvers_46 ?_
  refine lv_aload hx hb dX8_copyOvers_49 (lv_at hl 0 rfl) ?_
  refine g_get C0 G h_rz rfl hiX4 2 (by decide) mf_X8_292 rfl dX8_copyOvers_51 ?_
  refine lv_icmp_eq (tgt := 68) hx hb dX8_copyOvers_54 (by decide) (fun c23 => absurd c23 (w2)) (fun _ => ?_)
  exact g_throwW C0 G (X := "java/lang/UnsupportedOperationException") (by decide) mk_X8_155 mz_java_lang_UnsupportedOperationException (is := 295) (text := "the rows have different element types") (by decide) hat_159 hl.1 dX8_copyOvers_57 dX8_copyOvers_60 dX8_copyOvers_61 dX8_copyOvers_64 dX8_copyOvers_67 ⟨(Nat.le_of_ble_eq_true rfl), (Nat.le_of_ble_eq_true rfl)⟩ ⟨(Nat.le_of_ble_eq_true rfl), (Nat.le_of_ble_eq_true rfl)⟩ (Nat.le_of_ble_eq_true rfl) (Nat.le_of_ble_eq_true rfl) (by exact ⟨rfl, rfl⟩)
set_option maxRecDepth 100000 in
theorem c_X8_copyOversE4a1 {l : Launch} (hfl : l.stackTraces = false) {D : va_G} {cy : Nat → ClassId} {f : Hf} {sz : Nat} {x : Nat} {rz : Nat} {fz : Nat} {ro : Nat} {fo : Nat} {A : Nat → Nat} {b : Nat} {b2 : Nat} {lg : Nat} {lg_o : Nat} {tx : Nat} {xea : Int32} {xra : Int32} {xkr : Int32} {zst : Int32} {zex : Int32} {zln : Int32} {gz : Nat → UInt32} {ost : Int32} {oex : Int32} {oln : Int32} {gy : Nat → UInt32} (cnt : Int32) (h_x : f x = some (.inr (10, [.ref (A (b + 0)), .ref (A (b2 + 0)), .ref lg, .ref lg_o, .ref tx, .ref rz, .ref ro, .int xea, .int xra, .int xkr]))) (h_rz : f rz = some (.inr (6, [.ref fz, .int zst, .int zex, .int zln]))) (h_fz : f fz = some (.inl (cy 2, 20, .inr (.inr (.inl gz))))) (h_ro : f ro = some (.inr (6, [.ref fo, .int ost, .int oex, .int oln]))) (h_fo : f fo = some (.inl (cy 2, 20, .inr (.inr (.inl gy))))) (v0 : ¬ (X8_isWithin_x1 1 0 1) = 0) (w0 : ¬ ost = 0) (w1 : ¬ zst = 0) (w2 : oex = zex) (w3 : cnt < 0) : hMet l yX8_copyOvers cX8_copyOvers 5 (some .boolean) { frames := 6, cells := 1, slots := 6, locals := 82 } D (hTy cy) f sz [.ref x, .int 1, .int cnt] (hQi (fun r u => False) D f sz) (fun E u => E = "java/lang/IllegalArgumentException" ∧ u = f) := by
  refine h_enter (by decide) hfl (Nat.le_of_ble_eq_true rfl) ?_
  intro p9 e9 s9 m9 b9 t9 c9 hsz C0 hr hnm G ls hl
  have hx := C0.1.1
  have hb := C0.1.2.1
  have hl : lv_has ls 5 [(0, .ref x), (1, .int 1), (2, .int cnt)] := hl
  refine lv_iload_n hx hb dX8_copyOvers_0 rfl (lv_at hl 1 rfl) ?_
  refine g_cV C0 G (g_runS C0 G (rest := []) (c_X8_demandRowO hfl 1  v0) hY_X8_demandRow mm_X8_275 ms_X8_demandRow ⟨(Nat.le_of_ble_eq_true rfl), (Nat.le_of_ble_eq_true rfl)⟩ rfl hl.1 rfl (Nat.le_of_ble_eq_true rfl) dX8_copyOvers_1 ⟨(Nat.le_of_ble_eq_true rfl), (Nat.le_of_ble_eq_true rfl)⟩) (kx_no rfl) (fun u12 H locs hp11 G => ?_)
  have eu12 := hp11
  rw [eu12] at G
  refine lv_aload_n hx hb dX8_copyOvers_4 rfl (lv_at hl 0 rfl) ?_
  refine lv_iload_n hx hb dX8_copyOvers_5 rfl (lv_at hl 1 rfl) ?_
  refine g_cR C0 G (g_runV C0 G (rest := []) (c_X8_rowAt1 hfl (A := A) (b := b) (b2 := b2) (xea := xea) (xra := xra) (xkr := xkr) h_x) h_x rfl hY_X8_rowAt mm_X8_278 mi_X8_rowAt ml_X8_rowAt ⟨(Nat.le_of_ble_eq_true rfl), (Nat.le_of_ble_eq_true rfl)⟩ rfl hl.1 rfl (Nat.le_of_ble_eq_true rfl) dX8_copyOvers_6 ⟨(Nat.le_of_ble_eq_true rfl), (Nat.le_of_ble_eq_true rfl)⟩) (kx_no rfl) (fun a15 u14 H locs hp13 G => ?_)
  obtain ⟨er16, eu14⟩ := hp13
  have ser16 := er16.symm
  subst ser16
  rw [eu14] at G
  refine lv_astore_n (lv' := [(3, .ref ro), (0, .ref x), (1, .int 1), (2, .int cnt)]) hx hb dX8_copyOvers_9 rfl hl (by decide) rfl (fun ls hl => ?_)
  refine lv_aload_n hx hb dX8_copyOvers_10 rfl (lv_at hl 1 rfl) ?_
  refine lv_iconst (v := 1) hx hb dX8_copyOvers_11 (by decide) ?_
  refine lv_iload_n hx hb dX8_copyOvers_12 rfl (lv_at hl 2 rfl) ?_
  refine lv_isub hx hb dX8_copyOvers_13 ?_
  refine lv_topv (v := 0) (by decide) ?_
  refine g_cR C0 G (g_runV C0 G (rest := []) (c_X8_rowAt0 hfl (A := A) (b := b) (b2 := b2) (xea := xea) (xra := xra) (xkr := xkr) h_x) h_x rfl hY_X8_rowAt mm_X8_278 mi_X8_rowAt ml_X8_rowAt ⟨(Nat.le_of_ble_eq_true rfl), (Nat.le_of_ble_eq_true rfl)⟩ rfl hl.1 rfl (Nat.le_of_ble_eq_true rfl) dX8_copyOvers_14 ⟨(Nat.le_of_ble_eq_true rfl), (Nat.le_of_ble_eq_true rfl)⟩) (kx_no rfl) (fun a19 u18 H locs hp17 G => ?_)
  obtain ⟨er20, eu18⟩ := hp17
  have ser20 := er20.symm
  subst ser20
  rw [eu18] at G
  refine lv_astore (lv' := [(4, .ref rz), (3, .ref ro), (0, .ref x), (1, .int 1), (2, .int cnt)]) hx hb dX8_copyOvers_17 hl (by decide) rfl (fun ls hl => ?_)
  refine lv_aload_n hx hb dX8_copyOvers_19 rfl (lv_at hl 1 rfl) ?_
  refine g_get C0 G h_ro rfl hiX4 1 (by decide) mf_X8_286 rfl dX8_copyOvers_20 ?_
  refine lv_if_eq (tgt := 34) hx hb dX8_copyOvers_23 (by decide) (fun c21 => absurd c21 (w0)) (fun _ => ?_)
  refine lv_aload hx hb dX8_copyOvers_26 (lv_at hl 0 rfl) ?_
  refine g_get C0 G h_rz rfl hiX4 1 (by decide) mf_X8_286 rfl dX8_copyOvers_28 ?_
  refine lv_if_ne (tgt := 45) hx hb dX8_copyOvers_31 (by decide) (fun _ => ?_) (fun c22 => absurd c22 (w1))
  refine lv_aload_n hx hb dX8_copyOvers_45 rfl (lv_at hl 1 rfl) ?_
  refine g_get C0 G h_ro rfl hiX4 2 (by decide) mf_X8_292 rfl dX8_copyOvers_46 ?_
  refine lv_aload hx hb dX8_copyOvers_49 (lv_at hl 0 rfl) ?_
  refine g_get C0 G h_rz rfl hiX4 2 (by decide) mf_X8_292 rfl dX8_copyOvers_51 ?_
  refine lv_icmp_eq (tgt := 68) hx hb dX8_copyOvers_54 (by decide) (fun _ => ?_) (fun c23 => absurd (w2) c23)
  refine lv_iload_n hx hb dX8_copyOvers_68 rfl (lv_at hl 4 rfl) ?_
  refine lv_if_lt (tgt := 89) hx hb dX8_copyOvers_69 (by decide) (fun _ => ?_) (fun c24 => absurd (w3) c24)
  exact g_throwW C0 G (X := "java/lang/IllegalArgumentException") (by decide) mk_X8_60 mz_java_lang_IllegalArgumentException (is := 300) (text := "count out of range") (by decide) hat_64 hl.1 dX8_copyOvers_89 dX8_copyOvers_92 dX8_copyOvers_93 dX8_copyOvers_96 dX8_copyOvers_99 ⟨(Nat.le_of_ble_eq_true rfl), (Nat.le_of_ble_eq_true rfl)⟩ ⟨(Nat.le_of_ble_eq_true rfl), (Nat.le_of_ble_eq_true rfl)⟩ (Nat.le_of_ble_eq_true rfl) (Nat.le_of_ble_eq_true rfl) (by exact ⟨rfl, rfl⟩)
set_option maxRecDepth 100000 in
theorem c_X8_copyOversE4b1 {l : Launch} (hfl : l.stackTraces = false) {D : va_G} {cy : Nat → ClassId} {f : Hf} {sz : Nat} {x : Nat} {rz : Nat} {fz : Nat} {ro : Nat} {fo : Nat} {A : Nat → Nat} {b : Nat} {b2 : Nat} {lg : Nat} {lg_o : Nat} {tx : Nat} {xea : Int32} {xra : Int32} {xkr : Int32} {zst : Int32} {zex : Int32} {zln : Int32} {gz : Nat → UInt32} {ost : Int32} {oex : Int32} {oln : Int32} {gy : Nat → UInt32} (cnt : Int32) (h_x : f x = some (.inr (10, [.ref (A (b + 0)), .ref (A (b2 + 0)), .ref lg, .ref lg_o, .ref tx, .ref rz, .ref ro, .int xea, .int xra, .int xkr]))) (h_rz : f rz = some (.inr (6, [.ref fz, .int zst, .int zex, .int zln]))) (h_fz : f fz = some (.inl (cy 2, 20, .inr (.inr (.inl gz))))) (h_ro : f ro = some (.inr (6, [.ref fo, .int ost, .int oex, .int oln]))) (h_fo : f fo = some (.inl (cy 2, 20, .inr (.inr (.inl gy))))) (v0 : ¬ (X8_isWithin_x1 1 0 1) = 0) (w0 : ¬ ost = 0) (w1 : ¬ zst = 0) (w2 : oex = zex) (w3 : 0 ≤ cnt) (w4 : oln < cnt) : hMet l yX8_copyOvers cX8_copyOvers 5 (some .boolean) { frames := 6, cells := 1, slots := 6, locals := 82 } D (hTy cy) f sz [.ref x, .int 1, .int cnt] (hQi (fun r u => False) D f sz) (fun E u => E = "java/lang/IllegalArgumentException" ∧ u = f) := by
  refine h_enter (by decide) hfl (Nat.le_of_ble_eq_true rfl) ?_
  intro p9 e9 s9 m9 b9 t9 c9 hsz C0 hr hnm G ls hl
  have hx := C0.1.1
  have hb := C0.1.2.1
  have hl : lv_has ls 5 [(0, .ref x), (1, .int 1), (2, .int cnt)] := hl
  refine lv_iload_n hx hb dX8_copyOvers_0 rfl (lv_at hl 1 rfl) ?_
  refine g_cV C0 G (g_runS C0 G (rest := []) (c_X8_demandRowO hfl 1  v0) hY_X8_demandRow mm_X8_275 ms_X8_demandRow ⟨(Nat.le_of_ble_eq_true rfl), (Nat.le_of_ble_eq_true rfl)⟩ rfl hl.1 rfl (Nat.le_of_ble_eq_true rfl) dX8_copyOvers_1 ⟨(Nat.le_of_ble_eq_true rfl), (Nat.le_of_ble_eq_true rfl)⟩) (kx_no rfl) (fun u12 H locs hp11 G => ?_)
  have eu12 := hp11
  rw [eu12] at G
  refine lv_aload_n hx hb dX8_copyOvers_4 rfl (lv_at hl 0 rfl) ?_
  refine lv_iload_n hx hb dX8_copyOvers_5 rfl (lv_at hl 1 rfl) ?_
  refine g_cR C0 G (g_runV C0 G (rest := []) (c_X8_rowAt1 hfl (A := A) (b := b) (b2 := b2) (xea := xea) (xra := xra) (xkr := xkr) h_x) h_x rfl hY_X8_rowAt mm_X8_278 mi_X8_rowAt ml_X8_rowAt ⟨(Nat.le_of_ble_eq_true rfl), (Nat.le_of_ble_eq_true rfl)⟩ rfl hl.1 rfl (Nat.le_of_ble_eq_true rfl) dX8_copyOvers_6 ⟨(Nat.le_of_ble_eq_true rfl), (Nat.le_of_ble_eq_true rfl)⟩) (kx_no rfl) (fun a15 u14 H locs hp13 G => ?_)
  obtain ⟨er16, eu14⟩ := hp13
  have ser16 := er16.symm
  subst ser16
  rw [eu14] at G
  refine lv_astore_n (lv' := [(3, .ref ro), (0, .ref x), (1, .int 1), (2, .int cnt)]) hx hb dX8_copyOvers_9 rfl hl (by decide) rfl (fun ls hl => ?_)
  refine lv_aload_n hx hb dX8_copyOvers_10 rfl (lv_at hl 1 rfl) ?_
  refine lv_iconst (v := 1) hx hb dX8_copyOvers_11 (by decide) ?_
  refine lv_iload_n hx hb dX8_copyOvers_12 rfl (lv_at hl 2 rfl) ?_
  refine lv_isub hx hb dX8_copyOvers_13 ?_
  refine lv_topv (v := 0) (by decide) ?_
  refine g_cR C0 G (g_runV C0 G (rest := []) (c_X8_rowAt0 hfl (A := A) (b := b) (b2 := b2) (xea := xea) (xra := xra) (xkr := xkr) h_x) h_x rfl hY_X8_rowAt mm_X8_278 mi_X8_rowAt ml_X8_rowAt ⟨(Nat.le_of_ble_eq_true rfl), (Nat.le_of_ble_eq_true rfl)⟩ rfl hl.1 rfl (Nat.le_of_ble_eq_true rfl) dX8_copyOvers_14 ⟨(Nat.le_of_ble_eq_true rfl), (Nat.le_of_ble_eq_true rfl)⟩) (kx_no rfl) (fun a19 u18 H locs hp17 G => ?_)
  obtain ⟨er20, eu18⟩ := hp17
  have ser20 := er20.symm
  subst ser20
  rw [eu18] at G
  refine lv_astore (lv' := [(4, .ref rz), (3, .ref ro), (0, .ref x), (1, .int 1), (2, .int cnt)]) hx hb dX8_copyOvers_17 hl (by decide) rfl (fun ls hl => ?_)
  refine lv_aload_n hx hb dX8_copyOvers_19 rfl (lv_at hl 1 rfl) ?_
  refine g_get C0 G h_ro rfl hiX4 1 (by decide) mf_X8_286 rfl dX8_copyOvers_20 ?_
  refine lv_if_eq (tgt := 34) hx hb dX8_copyOvers_23 (by decide) (fun c21 => absurd c21 (w0)) (fun _ => ?_)
  refine lv_aload hx hb dX8_copyOvers_26 (lv_at hl 0 rfl) ?_
  refine g_get C0 G h_rz rfl hiX4 1 (by decide) mf_X8_286 rfl dX8_copyOvers_28 ?_
  refine lv_if_ne (tgt := 45) hx hb dX8_copyOvers_31 (by decide) (fun _ => ?_) (fun c22 => absurd c22 (w1))
  refine lv_aload_n hx hb dX8_copyOvers_45 rfl (lv_at hl 1 rfl) ?_
  refine g_get C0 G h_ro rfl hiX4 2 (by decide) mf_X8_292 rfl dX8_copyOvers_46 ?_
  refine lv_aload hx hb dX8_copyOvers_49 (lv_at hl 0 rfl) ?_
  refine g_get C0 G h_rz rfl hiX4 2 (by decide) mf_X8_292 rfl dX8_copyOvers_51 ?_
  refine lv_icmp_eq (tgt := 68) hx hb dX8_copyOvers_54 (by decide) (fun _ => ?_) (fun c23 => absurd (w2) c23)
  refine lv_iload_n hx hb dX8_copyOvers_68 rfl (lv_at hl 4 rfl) ?_
  refine lv_if_lt (tgt := 89) hx hb dX8_copyOvers_69 (by decide) (fun c24 => absurd c24 ((Int32.not_lt.mpr w3))) (fun _ => ?_)
  refine lv_iload_n hx hb dX8_copyOvers_72 rfl (lv_at hl 4 rfl) ?_
  refine lv_aload_n hx hb dX8_copyOvers_73 rfl (lv_at hl 1 rfl) ?_
  refine g_get C0 G h_ro rfl hiX4 3 (by decide) mf_X8_297 rfl dX8_copyOvers_74 ?_
  refine lv_icmp_gt (tgt := 89) hx hb dX8_copyOvers_77 (by decide) (fun _ => ?_) (fun c25 => absurd (w4) c25)
  exact g_throwW C0 G (X := "java/lang/IllegalArgumentException") (by decide) mk_X8_60 mz_java_lang_IllegalArgumentException (is := 300) (text := "count out of range") (by decide) hat_64 hl.1 dX8_copyOvers_89 dX8_copyOvers_92 dX8_copyOvers_93 dX8_copyOvers_96 dX8_copyOvers_99 ⟨(Nat.le_of_ble_eq_true rfl), (Nat.le_of_ble_eq_true rfl)⟩ ⟨(Nat.le_of_ble_eq_true rfl), (Nat.le_of_ble_eq_true rfl)⟩ (Nat.le_of_ble_eq_true rfl) (Nat.le_of_ble_eq_true rfl) (by exact ⟨rfl, rfl⟩)
set_option maxRecDepth 100000 in
theorem c_X8_copyOversE4c1 {l : Launch} (hfl : l.stackTraces = false) {D : va_G} {cy : Nat → ClassId} {f : Hf} {sz : Nat} {x : Nat} {rz : Nat} {fz : Nat} {ro : Nat} {fo : Nat} {A : Nat → Nat} {b : Nat} {b2 : Nat} {lg : Nat} {lg_o : Nat} {tx : Nat} {xea : Int32} {xra : Int32} {xkr : Int32} {zst : Int32} {zex : Int32} {zln : Int32} {gz : Nat → UInt32} {ost : Int32} {oex : Int32} {oln : Int32} {gy : Nat → UInt32} (cnt : Int32) (h_x : f x = some (.inr (10, [.ref (A (b + 0)), .ref (A (b2 + 0)), .ref lg, .ref lg_o, .ref tx, .ref rz, .ref ro, .int xea, .int xra, .int xkr]))) (h_rz : f rz = some (.inr (6, [.ref fz, .int zst, .int zex, .int zln]))) (h_fz : f fz = some (.inl (cy 2, 20, .inr (.inr (.inl gz))))) (h_ro : f ro = some (.inr (6, [.ref fo, .int ost, .int oex, .int oln]))) (h_fo : f fo = some (.inl (cy 2, 20, .inr (.inr (.inl gy))))) (v0 : ¬ (X8_isWithin_x1 1 0 1) = 0) (w0 : ¬ ost = 0) (w1 : ¬ zst = 0) (w2 : oex = zex) (w3 : 0 ≤ cnt) (w4 : cnt ≤ oln) (w5 : zln < cnt) : hMet l yX8_copyOvers cX8_copyOvers 5 (some .boolean) { frames := 6, cells := 1, slots := 6, locals := 82 } D (hTy cy) f sz [.ref x, .int 1, .int cnt] (hQi (fun r u => False) D f sz) (fun E u => E = "java/lang/IllegalArgumentException" ∧ u = f) := by
  refine h_enter (by decide) hfl (Nat.le_of_ble_eq_true rfl) ?_
  intro p9 e9 s9 m9 b9 t9 c9 hsz C0 hr hnm G ls hl
  have hx := C0.1.1
  have hb := C0.1.2.1
  have hl : lv_has ls 5 [(0, .ref x), (1, .int 1), (2, .int cnt)] := hl
  refine lv_iload_n hx hb dX8_copyOvers_0 rfl (lv_at hl 1 rfl) ?_
  refine g_cV C0 G (g_runS C0 G (rest := []) (c_X8_demandRowO hfl 1  v0) hY_X8_demandRow mm_X8_275 ms_X8_demandRow ⟨(Nat.le_of_ble_eq_true rfl), (Nat.le_of_ble_eq_true rfl)⟩ rfl hl.1 rfl (Nat.le_of_ble_eq_true rfl) dX8_copyOvers_1 ⟨(Nat.le_of_ble_eq_true rfl), (Nat.le_of_ble_eq_true rfl)⟩) (kx_no rfl) (fun u12 H locs hp11 G => ?_)
  have eu12 := hp11
  rw [eu12] at G
  refine lv_aload_n hx hb dX8_copyOvers_4 rfl (lv_at hl 0 rfl) ?_
  refine lv_iload_n hx hb dX8_copyOvers_5 rfl (lv_at hl 1 rfl) ?_
  refine g_cR C0 G (g_runV C0 G (rest := []) (c_X8_rowAt1 hfl (A := A) (b := b) (b2 := b2) (xea := xea) (xra := xra) (xkr := xkr) h_x) h_x rfl hY_X8_rowAt mm_X8_278 mi_X8_rowAt ml_X8_rowAt ⟨(Nat.le_of_ble_eq_true rfl), (Nat.le_of_ble_eq_true rfl)⟩ rfl hl.1 rfl (Nat.le_of_ble_eq_true rfl) dX8_copyOvers_6 ⟨(Nat.le_of_ble_eq_true rfl), (Nat.le_of_ble_eq_true rfl)⟩) (kx_no rfl) (fun a15 u14 H locs hp13 G => ?_)
  obtain ⟨er16, eu14⟩ := hp13
  have ser16 := er16.symm
  subst ser16
  rw [eu14] at G
  refine lv_astore_n (lv' := [(3, .ref ro), (0, .ref x), (1, .int 1), (2, .int cnt)]) hx hb dX8_copyOvers_9 rfl hl (by decide) rfl (fun ls hl => ?_)
  refine lv_aload_n hx hb dX8_copyOvers_10 rfl (lv_at hl 1 rfl) ?_
  refine lv_iconst (v := 1) hx hb dX8_copyOvers_11 (by decide) ?_
  refine lv_iload_n hx hb dX8_copyOvers_12 rfl (lv_at hl 2 rfl) ?_
  refine lv_isub hx hb dX8_copyOvers_13 ?_
  refine lv_topv (v := 0) (by decide) ?_
  refine g_cR C0 G (g_runV C0 G (rest := []) (c_X8_rowAt0 hfl (A := A) (b := b) (b2 := b2) (xea := xea) (xra := xra) (xkr := xkr) h_x) h_x rfl hY_X8_rowAt mm_X8_278 mi_X8_rowAt ml_X8_rowAt ⟨(Nat.le_of_ble_eq_true rfl), (Nat.le_of_ble_eq_true rfl)⟩ rfl hl.1 rfl (Nat.le_of_ble_eq_true rfl) dX8_copyOvers_14 ⟨(Nat.le_of_ble_eq_true rfl), (Nat.le_of_ble_eq_true rfl)⟩) (kx_no rfl) (fun a19 u18 H locs hp17 G => ?_)
  obtain ⟨er20, eu18⟩ := hp17
  have ser20 := er20.symm
  subst ser20
  rw [eu18] at G
  refine lv_astore (lv' := [(4, .ref rz), (3, .ref ro), (0, .ref x), (1, .int 1), (2, .int cnt)]) hx hb dX8_copyOvers_17 hl (by decide) rfl (fun ls hl => ?_)
  refine lv_aload_n hx hb dX8_copyOvers_19 rfl (lv_at hl 1 rfl) ?_
  refine g_get C0 G h_ro rfl hiX4 1 (by decide) mf_X8_286 rfl dX8_copyOvers_20 ?_
  refine lv_if_eq (tgt := 34) hx hb dX8_copyOvers_23 (by decide) (fun c21 => absurd c21 (w0)) (fun _ => ?_)
  refine lv_aload hx hb dX8_copyOvers_26 (lv_at hl 0 rfl) ?_
  refine g_get C0 G h_rz rfl hiX4 1 (by decide) mf_X8_286 rfl dX8_copyOvers_28 ?_
  refine lv_if_ne (tgt := 45) hx hb dX8_copyOvers_31 (by decide) (fun _ => ?_) (fun c22 => absurd c22 (w1))
  refine lv_aload_n hx hb dX8_copyOvers_45 rfl (lv_at hl 1 rfl) ?_
  refine g_get C0 G h_ro rfl hiX4 2 (by decide) mf_X8_292 rfl dX8_copyOvers_46 ?_
  refine lv_aload hx hb dX8_copyOvers_49 (lv_at hl 0 rfl) ?_
  refine g_get C0 G h_rz rfl hiX4 2 (by decide) mf_X8_292 rfl dX8_copyOvers_51 ?_
  refine lv_icmp_eq (tgt := 68) hx hb dX8_copyOvers_54 (by decide) (fun _ => ?_) (fun c23 => absurd (w2) c23)
  refine lv_iload_n hx hb dX8_copyOvers_68 rfl (lv_at hl 4 rfl) ?_
  refine lv_if_lt (tgt := 89) hx hb dX8_copyOvers_69 (by decide) (fun c24 => absurd c24 ((Int32.not_lt.mpr w3))) (fun _ => ?_)
  refine lv_iload_n hx hb dX8_copyOvers_72 rfl (lv_at hl 4 rfl) ?_
  refine lv_aload_n hx hb dX8_copyOvers_73 rfl (lv_at hl 1 rfl) ?_
  refine g_get C0 G h_ro rfl hiX4 3 (by decide) mf_X8_297 rfl dX8_copyOvers_74 ?_
  refine lv_icmp_gt (tgt := 89) hx hb dX8_copyOvers_77 (by decide) (fun c25 => absurd c25 ((Int32.not_lt.mpr w4))) (fun _ => ?_)
  refine lv_iload_n hx hb dX8_copyOvers_80 rfl (lv_at hl 4 rfl) ?_
  refine lv_aload hx hb dX8_copyOvers_81 (lv_at hl 0 rfl) ?_
  refine g_get C0 G h_rz rfl hiX4 3 (by decide) mf_X8_297 rfl dX8_copyOvers_83 ?_
  refine lv_icmp_le (tgt := 100) hx hb dX8_copyOvers_86 (by decide) (fun c26 => absurd c26 ((fun q => (Int32.not_lt.mpr q) w5))) (fun _ => ?_)
  exact g_throwW C0 G (X := "java/lang/IllegalArgumentException") (by decide) mk_X8_60 mz_java_lang_IllegalArgumentException (is := 300) (text := "count out of range") (by decide) hat_64 hl.1 dX8_copyOvers_89 dX8_copyOvers_92 dX8_copyOvers_93 dX8_copyOvers_96 dX8_copyOvers_99 ⟨(Nat.le_of_ble_eq_true rfl), (Nat.le_of_ble_eq_true rfl)⟩ ⟨(Nat.le_of_ble_eq_true rfl), (Nat.le_of_ble_eq_true rfl)⟩ (Nat.le_of_ble_eq_true rfl) (Nat.le_of_ble_eq_true rfl) (by exact ⟨rfl, rfl⟩)
def X8_copyOversY1_g0 (gz : Nat → UInt32) (gy : Nat → UInt32) (cn : Nat) : Nat → UInt32 := (X4_take_g2 cn gz gy)
set_option maxRecDepth 100000 in
theorem c_X8_copyOversY1 {l : Launch} (hfl : l.stackTraces = false) {D : va_G} {cy : Nat → ClassId} {f : Hf} {sz : Nat} {x : Nat} {rz : Nat} {fz : Nat} {ro : Nat} {fo : Nat} {A : Nat → Nat} {b : Nat} {b2 : Nat} {lg : Nat} {lg_o : Nat} {tx : Nat} {xea : Int32} {xra : Int32} {xkr : Int32} {zst : Int32} {zex : Int32} {zln : Int32} {gz : Nat → UInt32} {ost : Int32} {oex : Int32} {oln : Int32} {gy : Nat → UInt32} {cn : Nat} (h_x : f x = some (.inr (10, [.ref (A (b + 0)), .ref (A (b2 + 0)), .ref lg, .ref lg_o, .ref tx, .ref rz, .ref ro, .int xea, .int xra, .int xkr]))) (h_rz : f rz = some (.inr (6, [.ref fz, .int zst, .int zex, .int zln]))) (h_fz : f fz = some (.inl (cy 2, 20, .inr (.inr (.inl gz))))) (h_ro : f ro = some (.inr (6, [.ref fo, .int ost, .int oex, .int oln]))) (h_fo : f fo = some (.inl (cy 2, 20, .inr (.inr (.inl gy))))) (v0 : ¬ (X8_isWithin_x1 1 0 1) = 0) (w0 : ¬ ost = 0) (w1 : ¬ zst = 0) (w2 : oex = zex) (w3 : 0 ≤ nI cn) (w4 : nI cn ≤ oln) (w5 : nI cn ≤ zln) (hcn : cn ≤ 20) (hfe : fz ≠ fo) : hMet l yX8_copyOvers cX8_copyOvers 5 (some .boolean) { frames := 2, cells := 0, slots := 0, locals := 46 } D (hTy cy) f sz [.ref x, .int 1, .int (nI cn)] (hQi (fun r u => r = (tkC gz gy cn) ∧ u fz = some (.inl (cy 2, 20, .inr (.inr (.inl (X8_copyOversY1_g0 gz gy cn))))) ∧ hFrL f u [fz]) D f sz) hNo := by
  refine h_enter (by decide) hfl (Nat.le_of_ble_eq_true rfl) ?_
  intro p9 e9 s9 m9 b9 t9 c9 hsz C0 hr hnm G ls hl
  have hx := C0.1.1
  have hb := C0.1.2.1
  have hl : lv_has ls 5 [(0, .ref x), (1, .int 1), (2, .int (nI cn))] := hl
  refine lv_iload_n hx hb dX8_copyOvers_0 rfl (lv_at hl 1 rfl) ?_
  refine g_cV C0 G (g_runS C0 G (rest := []) (c_X8_demandRowO hfl 1  v0) hY_X8_demandRow mm_X8_275 ms_X8_demandRow ⟨(Nat.le_of_ble_eq_true rfl), (Nat.le_of_ble_eq_true rfl)⟩ rfl hl.1 rfl (Nat.le_of_ble_eq_true rfl) dX8_copyOvers_1 ⟨(Nat.le_of_ble_eq_true rfl), (Nat.le_of_ble_eq_true rfl)⟩) (kx_no rfl) (fun u12 H locs hp11 G => ?_)
  have eu12 := hp11
  rw [eu12] at G
  refine lv_aload_n hx hb dX8_copyOvers_4 rfl (lv_at hl 0 rfl) ?_
  refine lv_iload_n hx hb dX8_copyOvers_5 rfl (lv_at hl 1 rfl) ?_
  refine g_cR C0 G (g_runV C0 G (rest := []) (c_X8_rowAt1 hfl (A := A) (b := b) (b2 := b2) (xea := xea) (xra := xra) (xkr := xkr) h_x) h_x rfl hY_X8_rowAt mm_X8_278 mi_X8_rowAt ml_X8_rowAt ⟨(Nat.le_of_ble_eq_true rfl), (Nat.le_of_ble_eq_true rfl)⟩ rfl hl.1 rfl (Nat.le_of_ble_eq_true rfl) dX8_copyOvers_6 ⟨(Nat.le_of_ble_eq_true rfl), (Nat.le_of_ble_eq_true rfl)⟩) (kx_no rfl) (fun a15 u14 H locs hp13 G => ?_)
  obtain ⟨er16, eu14⟩ := hp13
  have ser16 := er16.symm
  subst ser16
  rw [eu14] at G
  refine lv_astore_n (lv' := [(3, .ref ro), (0, .ref x), (1, .int 1), (2, .int (nI cn))]) hx hb dX8_copyOvers_9 rfl hl (by decide) rfl (fun ls hl => ?_)
  refine lv_aload_n hx hb dX8_copyOvers_10 rfl (lv_at hl 1 rfl) ?_
  refine lv_iconst (v := 1) hx hb dX8_copyOvers_11 (by decide) ?_
  refine lv_iload_n hx hb dX8_copyOvers_12 rfl (lv_at hl 2 rfl) ?_
  refine lv_isub hx hb dX8_copyOvers_13 ?_
  refine lv_topv (v := 0) (by decide) ?_
  refine g_cR C0 G (g_runV C0 G (rest := []) (c_X8_rowAt0 hfl (A := A) (b := b) (b2 := b2) (xea := xea) (xra := xra) (xkr := xkr) h_x) h_x rfl hY_X8_rowAt mm_X8_278 mi_X8_rowAt ml_X8_rowAt ⟨(Nat.le_of_ble_eq_true rfl), (Nat.le_of_ble_eq_true rfl)⟩ rfl hl.1 rfl (Nat.le_of_ble_eq_true rfl) dX8_copyOvers_14 ⟨(Nat.le_of_ble_eq_true rfl), (Nat.le_of_ble_eq_true rfl)⟩) (kx_no rfl) (fun a19 u18 H locs hp17 G => ?_)
  obtain ⟨er20, eu18⟩ := hp17
  have ser20 := er20.symm
  subst ser20
  rw [eu18] at G
  refine lv_astore (lv' := [(4, .ref rz), (3, .ref ro), (0, .ref x), (1, .int 1), (2, .int (nI cn))]) hx hb dX8_copyOvers_17 hl (by decide) rfl (fun ls hl => ?_)
  refine lv_aload_n hx hb dX8_copyOvers_19 rfl (lv_at hl 1 rfl) ?_
  refine g_get C0 G h_ro rfl hiX4 1 (by decide) mf_X8_286 rfl dX8_copyOvers_20 ?_
  refine lv_if_eq (tgt := 34) hx hb dX8_copyOvers_23 (by decide) (fun c21 => absurd c21 (w0)) (fun _ => ?_)
  refine lv_aload hx hb dX8_copyOvers_26 (lv_at hl 0 rfl) ?_
  refine g_get C0 G h_rz rfl hiX4 1 (by decide) mf_X8_286 rfl dX8_copyOvers_28 ?_
  refine lv_if_ne (tgt := 45) hx hb dX8_copyOvers_31 (by decide) (fun _ => ?_) (fun c22 => absurd c22 (w1))
  refine lv_aload_n hx hb dX8_copyOvers_45 rfl (lv_at hl 1 rfl) ?_
  refine g_get C0 G h_ro rfl hiX4 2 (by decide) mf_X8_292 rfl dX8_copyOvers_46 ?_
  refine lv_aload hx hb dX8_copyOvers_49 (lv_at hl 0 rfl) ?_
  refine g_get C0 G h_rz rfl hiX4 2 (by decide) mf_X8_292 rfl dX8_copyOvers_51 ?_
  refine lv_icmp_eq (tgt := 68) hx hb dX8_copyOvers_54 (by decide) (fun _ => ?_) (fun c23 => absurd (w2) c23)
  refine lv_iload_n hx hb dX8_copyOvers_68 rfl (lv_at hl 4 rfl) ?_
  refine lv_if_lt (tgt := 89) hx hb dX8_copyOvers_69 (by decide) (fun c24 => absurd c24 ((Int32.not_lt.mpr w3))) (fun _ => ?_)
  refine lv_iload_n hx hb dX8_copyOvers_72 rfl (lv_at hl 4 rfl) ?_
  refine lv_aload_n hx hb dX8_copyOvers_73 rfl (lv_at hl 1 rfl) ?_
  refine g_get C0 G h_ro rfl hiX4 3 (by decide) mf_X8_297 rfl dX8_copyOvers_74 ?_
  refine lv_icmp_gt (tgt := 89) hx hb dX8_copyOvers_77 (by decide) (fun c25 => absurd c25 ((Int32.not_lt.mpr w4))) (fun _ => ?_)
  refine lv_iload_n hx hb dX8_copyOvers_80 rfl (lv_at hl 4 rfl) ?_
  refine lv_aload hx hb dX8_copyOvers_81 (lv_at hl 0 rfl) ?_
  refine g_get C0 G h_rz rfl hiX4 3 (by decide) mf_X8_297 rfl dX8_copyOvers_83 ?_
  refine lv_icmp_le (tgt := 100) hx hb dX8_copyOvers_86 (by decide) (fun _ => ?_) (fun c26 => absurd (w5) c26)
  refine lv_aload hx hb dX8_copyOvers_100 (lv_at hl 0 rfl) ?_
  refine lv_aload_n hx hb dX8_copyOvers_102 rfl (lv_at hl 1 rfl) ?_
  refine lv_iload_n hx hb dX8_copyOvers_103 rfl (lv_at hl 4 rfl) ?_
  refine g_cI C0 G (g_runV C0 G (rest := []) (c_X4_take hfl (rst := zst) (rex := zex) (rln := zln) (rst_o := ost) (rex_o := oex) (rln_o := oln) (cn := cn) (gf := gz) (gf_o := gy) h_rz h_fz h_ro h_fo hfe hcn) h_rz rfl hY_X4_take mm_X8_302 mi_X4_take ml_X4_take ⟨(Nat.le_of_ble_eq_true rfl), (Nat.le_of_ble_eq_true rfl)⟩ rfl hl.1 rfl (Nat.le_of_ble_eq_true rfl) dX8_copyOvers_104 ⟨(Nat.le_of_ble_eq_true rfl), (Nat.le_of_ble_eq_true rfl)⟩) (kx_no rfl) (fun r29 u28 H locs hp27 G => ?_)
  obtain ⟨er30, k31, fr32⟩ := hp27
  refine lv_topv (v := (tkC gz gy cn)) er30 ?_
  exact g_zret C0 G hr dX8_copyOvers_107 (hZb (b_c_X4_take cn gz gy)) (Nat.le_of_ble_eq_true rfl) (Nat.le_of_ble_eq_true rfl) (by exact ⟨rfl, (by rw [(by rw [X8_copyOversY1_g0] : (X8_copyOversY1_g0 gz gy cn) = (X4_take_g2 cn gz gy))]; exact k31), (fun a9 e9 h7 h8 => fr32 _ _ (fun q => h7 (by simp only [List.mem_cons, List.not_mem_nil, or_false] at q ⊢; first | exact q | (rcases q with q <;> simp [q]) | omega)) (h8))⟩)
theorem b_c_X8_copyOversY1 (gz : Nat → UInt32) (gy : Nat → UInt32) (cn : Nat) : (tkC gz gy cn) = 0 ∨ (tkC gz gy cn) = 1 := (b_c_X4_take cn gz gy)
set_option maxRecDepth 100000 in
theorem c_X8_storedOversE1 {l : Launch} (hfl : l.stackTraces = false) {D : va_G} {cy : Nat → ClassId} {f : Hf} {sz : Nat} {x : Nat} {ro : Nat} {fo : Nat} {A : Nat → Nat} {b : Nat} {b2 : Nat} {lg : Nat} {lg_o : Nat} {tx : Nat} {rz : Nat} {xea : Int32} {xra : Int32} {xkr : Int32} {ost : Int32} {oex : Int32} {oln : Int32} {gy : Nat → UInt32} (ix : Int32) (h_x : f x = some (.inr (10, [.ref (A (b + 0)), .ref (A (b2 + 0)), .ref lg, .ref lg_o, .ref tx, .ref rz, .ref ro, .int xea, .int xra, .int xkr]))) (h_ro : f ro = some (.inr (6, [.ref fo, .int ost, .int oex, .int oln]))) (h_fo : f fo = some (.inl (cy 2, 20, .inr (.inr (.inl gy))))) (v0 : ¬ (X8_isWithin_x1 1 0 1) = 0) (w0 : (X4_has_x2 ost oln ix) = 0) : hMet l yX8_storedOvers cX8_storedOvers 3 (some .float) { frames := 6, cells := 1, slots := 6, locals := 82 } D (hTy cy) f sz [.ref x, .int 1, .int ix] (hQf (fun r u => False) D f sz) (fun E u => E = "java/util/NoSuchElementException" ∧ u = f) := by
  refine h_enter (by decide) hfl (Nat.le_of_ble_eq_true rfl) ?_
  intro p9 e9 s9 m9 b9 t9 c9 hsz C0 hr hnm G ls hl
  have hx := C0.1.1
  have hb := C0.1.2.1
  have hl : lv_has ls 3 [(0, .ref x), (1, .int 1), (2, .int ix)] := hl
  refine lv_iload_n hx hb dX8_storedOvers_0 rfl (lv_at hl 1 rfl) ?_
  refine g_cV C0 G (g_runS C0 G (rest := []) (c_X8_demandRowO hfl 1  v0) hY_X8_demandRow mm_X8_275 ms_X8_demandRow ⟨(Nat.le_of_ble_eq_true rfl), (Nat.le_of_ble_eq_true rfl)⟩ rfl hl.1 rfl (Nat.le_of_ble_eq_true rfl) dX8_storedOvers_1 ⟨(Nat.le_of_ble_eq_true rfl), (Nat.le_of_ble_eq_true rfl)⟩) (kx_no rfl) (fun u12 H locs hp11 G => ?_)
  have eu12 := hp11
  rw [eu12] at G
  refine lv_aload_n hx hb dX8_storedOvers_4 rfl (lv_at hl 0 rfl) ?_
  refine lv_iload_n hx hb dX8_storedOvers_5 rfl (lv_at hl 1 rfl) ?_
  refine g_cR C0 G (g_runV C0 G (rest := []) (c_X8_rowAt1 hfl (A := A) (b := b) (b2 := b2) (xea := xea) (xra := xra) (xkr := xkr) h_x) h_x rfl hY_X8_rowAt mm_X8_278 mi_X8_rowAt ml_X8_rowAt ⟨(Nat.le_of_ble_eq_true rfl), (Nat.le_of_ble_eq_true rfl)⟩ rfl hl.1 rfl (Nat.le_of_ble_eq_true rfl) dX8_storedOvers_6 ⟨(Nat.le_of_ble_eq_true rfl), (Nat.le_of_ble_eq_true rfl)⟩) (kx_no rfl) (fun a15 u14 H locs hp13 G => ?_)
  obtain ⟨er16, eu14⟩ := hp13
  have ser16 := er16.symm
  subst ser16
  rw [eu14] at G
  refine lv_iload_n hx hb dX8_storedOvers_9 rfl (lv_at hl 2 rfl) ?_
  refine g_cI C0 G (g_runV C0 G (rest := []) (c_X4_has hfl (rst := ost) (rex := oex) (rln := oln) ix h_ro) h_ro rfl hY_X4_has mm_X8_306 mi_X4_has ml_X4_has ⟨(Nat.le_of_ble_eq_true rfl), (Nat.le_of_ble_eq_true rfl)⟩ rfl hl.1 rfl (Nat.le_of_ble_eq_true rfl) dX8_storedOvers_10 ⟨(Nat.le_of_ble_eq_true rfl), (Nat.le_of_ble_eq_true rfl)⟩) (kx_no rfl) (fun r19 u18 H locs hp17 G => ?_)
  obtain ⟨er20, eu18⟩ := hp17
  rw [eu18] at G
  refine lv_topv (v := (X4_has_x2 ost oln ix)) er20 ?_
  refine lv_if_ne (tgt := 27) hx hb dX8_storedOvers_13 (by decide) (fun c21 => absurd (w0) c21) (fun _ => ?_)
  exact g_throwNW C0 G mk_X8_185 mz_java_util_NoSuchElementException (is := 309) (text := "no such element") (by decide) hl.1 dX8_storedOvers_16 dX8_storedOvers_19 ⟨dX8_storedOvers_20, dX8_storedOvers_23, dX8_storedOvers_26⟩ ⟨(Nat.le_of_ble_eq_true rfl), (Nat.le_of_ble_eq_true rfl)⟩ ⟨(Nat.le_of_ble_eq_true rfl), (Nat.le_of_ble_eq_true rfl)⟩ (Nat.le_of_ble_eq_true rfl) (Nat.le_of_ble_eq_true rfl) (by exact ⟨rfl, rfl⟩)
set_option maxRecDepth 100000 in
theorem c_X8_storedOversY1 {l : Launch} (hfl : l.stackTraces = false) {D : va_G} {cy : Nat → ClassId} {f : Hf} {sz : Nat} {x : Nat} {ro : Nat} {fo : Nat} {A : Nat → Nat} {b : Nat} {b2 : Nat} {lg : Nat} {lg_o : Nat} {tx : Nat} {rz : Nat} {xea : Int32} {xra : Int32} {xkr : Int32} {ost : Int32} {oex : Int32} {oln : Int32} {gy : Nat → UInt32} {kx : Nat} (h_x : f x = some (.inr (10, [.ref (A (b + 0)), .ref (A (b2 + 0)), .ref lg, .ref lg_o, .ref tx, .ref rz, .ref ro, .int xea, .int xra, .int xkr]))) (h_ro : f ro = some (.inr (6, [.ref fo, .int ost, .int oex, .int oln]))) (h_fo : f fo = some (.inl (cy 2, 20, .inr (.inr (.inl gy))))) (v0 : ¬ (X8_isWithin_x1 1 0 1) = 0) (w0 : ¬ (X4_has_x2 ost oln (nI kx)) = 0) (hkx : kx < 20) : hMet l yX8_storedOvers cX8_storedOvers 3 (some .float) { frames := 2, cells := 0, slots := 0, locals := 42 } D (hTy cy) f sz [.ref x, .int 1, .int (nI kx)] (hQf (fun r u => r = (X4_get_r0 kx gy) ∧ u = f) D f sz) hNo := by
  refine h_enter (by decide) hfl (Nat.le_of_ble_eq_true rfl) ?_
  intro p9 e9 s9 m9 b9 t9 c9 hsz C0 hr hnm G ls hl
  have hx := C0.1.1
  have hb := C0.1.2.1
  have hl : lv_has ls 3 [(0, .ref x), (1, .int 1), (2, .int (nI kx))] := hl
  refine lv_iload_n hx hb dX8_storedOvers_0 rfl (lv_at hl 1 rfl) ?_
  refine g_cV C0 G (g_runS C0 G (rest := []) (c_X8_demandRowO hfl 1  v0) hY_X8_demandRow mm_X8_275 ms_X8_demandRow ⟨(Nat.le_of_ble_eq_true rfl), (Nat.le_of_ble_eq_true rfl)⟩ rfl hl.1 rfl (Nat.le_of_ble_eq_true rfl) dX8_storedOvers_1 ⟨(Nat.le_of_ble_eq_true rfl), (Nat.le_of_ble_eq_true rfl)⟩) (kx_no rfl) (fun u12 H locs hp11 G => ?_)
  have eu12 := hp11
  rw [eu12] at G
  refine lv_aload_n hx hb dX8_storedOvers_4 rfl (lv_at hl 0 rfl) ?_
  refine lv_iload_n hx hb dX8_storedOvers_5 rfl (lv_at hl 1 rfl) ?_
  refine g_cR C0 G (g_runV C0 G (rest := []) (c_X8_rowAt1 hfl (A := A) (b := b) (b2 := b2) (xea := xea) (xra := xra) (xkr := xkr) h_x) h_x rfl hY_X8_rowAt mm_X8_278 mi_X8_rowAt ml_X8_rowAt ⟨(Nat.le_of_ble_eq_true rfl), (Nat.le_of_ble_eq_true rfl)⟩ rfl hl.1 rfl (Nat.le_of_ble_eq_true rfl) dX8_storedOvers_6 ⟨(Nat.le_of_ble_eq_true rfl), (Nat.le_of_ble_eq_true rfl)⟩) (kx_no rfl) (fun a15 u14 H locs hp13 G => ?_)
  obtain ⟨er16, eu14⟩ := hp13
  have ser16 := er16.symm
  subst ser16
  rw [eu14] at G
  refine lv_iload_n hx hb dX8_storedOvers_9 rfl (lv_at hl 2 rfl) ?_
  refine g_cI C0 G (g_runV C0 G (rest := []) (c_X4_has hfl (rst := ost) (rex := oex) (rln := oln) (nI kx) h_ro) h_ro rfl hY_X4_has mm_X8_306 mi_X4_has ml_X4_has ⟨(Nat.le_of_ble_eq_true rfl), (Nat.le_of_ble_eq_true rfl)⟩ rfl hl.1 rfl (Nat.le_of_ble_eq_true rfl) dX8_storedOvers_10 ⟨(Nat.le_of_ble_eq_true rfl), (Nat.le_of_ble_eq_true rfl)⟩) (kx_no rfl) (fun r19 u18 H locs hp17 G => ?_)
  obtain ⟨er20, eu18⟩ := hp17
  rw [eu18] at G
  refine lv_topv (v := (X4_has_x2 ost oln (nI kx))) er20 ?_
  refine lv_if_ne (tgt := 27) hx hb dX8_storedOvers_13 (by decide) (fun _ => ?_) (fun c21 => absurd c21 (w0))
  refine lv_aload_n hx hb dX8_storedOvers_27 rfl (lv_at hl 0 rfl) ?_
  refine lv_iload_n hx hb dX8_storedOvers_28 rfl (lv_at hl 1 rfl) ?_
  refine g_cR C0 G (g_runV C0 G (rest := []) (c_X8_rowAt1 hfl (A := A) (b := b) (b2 := b2) (xea := xea) (xra := xra) (xkr := xkr) h_x) h_x rfl hY_X8_rowAt mm_X8_278 mi_X8_rowAt ml_X8_rowAt ⟨(Nat.le_of_ble_eq_true rfl), (Nat.le_of_ble_eq_true rfl)⟩ rfl hl.1 rfl (Nat.le_of_ble_eq_true rfl) dX8_storedOvers_29 ⟨(Nat.le_of_ble_eq_true rfl), (Nat.le_of_ble_eq_true rfl)⟩) (kx_no rfl) (fun a24 u23 H locs hp22 G => ?_)
  obtain ⟨er25, eu23⟩ := hp22
  have ser25 := er25.symm
  subst ser25
  rw [eu23] at G
  refine lv_iload_n hx hb dX8_storedOvers_32 rfl (lv_at hl 2 rfl) ?_
  refine g_cF C0 G (g_runV C0 G (rest := []) (c_X4_get hfl (rst := ost) (rex := oex) (rln := oln) (kx := kx) (gf := gy) h_ro h_fo hkx) h_ro rfl hY_X4_get mm_X8_311 mi_X4_get ml_X4_get ⟨(Nat.le_of_ble_eq_true rfl), (Nat.le_of_ble_eq_true rfl)⟩ rfl hl.1 rfl (Nat.le_of_ble_eq_true rfl) dX8_storedOvers_33 ⟨(Nat.le_of_ble_eq_true rfl), (Nat.le_of_ble_eq_true rfl)⟩) (kx_no rfl) (fun r28 u27 H locs hp26 G => ?_)
  obtain ⟨zr, eu27⟩ := hp26
  replace zr := Eq.symm zr
  subst zr
  rw [eu27] at G
  exact g_fret C0 G hr dX8_storedOvers_36 (Nat.le_of_ble_eq_true rfl) (Nat.le_of_ble_eq_true rfl) (by exact ⟨rfl, rfl⟩)
set_option maxRecDepth 100000 in
theorem c_X8_beginB1 {l : Launch} (hfl : l.stackTraces = false) {D : va_G} {cy : Nat → ClassId} {f : Hf} {sz : Nat} {x : Nat} {A : Nat → Nat} {b : Nat} {b2 : Nat} {lg : Nat} {lg_o : Nat} {tx : Nat} {rz : Nat} {ro : Nat} {xea : Int32} {xra : Int32} {xkr : Int32} (ov9 : Int32) (ie9 : Int32) (fi9 : Int32) (h_x : f x = some (.inr (10, [.ref (A (b + 0)), .ref (A (b2 + 0)), .ref lg, .ref lg_o, .ref tx, .ref rz, .ref ro, .int xea, .int xra, .int xkr]))) (v0 : (X8_isWithin_x1 ov9 1 20) = 0) : hMet l yX8_begin cX8_begin 4 (some .int) { frames := 6, cells := 1, slots := 6, locals := 82 } D (hTy cy) f sz [.ref x, .int ov9, .int ie9, .int fi9] (hQi (fun r u => False) D f sz) (fun E u => E = "java/lang/IllegalArgumentException" ∧ u = f) := by
  refine h_enter (by decide) hfl (Nat.le_of_ble_eq_true rfl) ?_
  intro p9 e9 s9 m9 b9 t9 c9 hsz C0 hr hnm G ls hl
  have hx := C0.1.1
  have hb := C0.1.2.1
  have hl : lv_has ls 4 [(0, .ref x), (1, .int ov9), (2, .int ie9), (3, .int fi9)] := hl
  refine lv_iload_n hx hb dX8_begin_0 rfl (lv_at hl 1 rfl) ?_
  refine lv_iconst (v := 1) hx hb dX8_begin_1 (by decide) ?_
  refine lv_bipush (v := 20) hx hb dX8_begin_2 (by decide) ?_
  refine g_cI C0 G (g_runS C0 G (rest := []) (c_X8_isWithin hfl ov9 1 20 ) hY_X8_isWithin mm_X8_56 ms_X8_isWithin ⟨(Nat.le_of_ble_eq_true rfl), (Nat.le_of_ble_eq_true rfl)⟩ rfl hl.1 rfl (Nat.le_of_ble_eq_true rfl) dX8_begin_4 ⟨(Nat.le_of_ble_eq_true rfl), (Nat.le_of_ble_eq_true rfl)⟩) (kx_no rfl) (fun r13 u12 H locs hp11 G => ?_)
  obtain ⟨er14, eu12⟩ := hp11
  rw [eu12] at G
  refine lv_topv (v := (X8_isWithin_x1 ov9 1 20)) er14 ?_
  refine lv_if_eq (tgt := 28) hx hb dX8_begin_7 (by decide) (fun _ => ?_) (fun c15 => absurd (v0) c15)
  exact g_throw C0 G (X := "java/lang/IllegalArgumentException") (by decide) mk_X8_60 mz_java_lang_IllegalArgumentException (is := 62) (text := "overs, innings or team out of range") (by decide) hat_64 hl.1 dX8_begin_28 dX8_begin_31 dX8_begin_32 dX8_begin_34 dX8_begin_37 ⟨(Nat.le_of_ble_eq_true rfl), (Nat.le_of_ble_eq_true rfl)⟩ ⟨(Nat.le_of_ble_eq_true rfl), (Nat.le_of_ble_eq_true rfl)⟩ (Nat.le_of_ble_eq_true rfl) (Nat.le_of_ble_eq_true rfl) (by exact ⟨rfl, rfl⟩)
set_option maxRecDepth 100000 in
theorem c_X8_beginB2 {l : Launch} (hfl : l.stackTraces = false) {D : va_G} {cy : Nat → ClassId} {f : Hf} {sz : Nat} {x : Nat} {A : Nat → Nat} {b : Nat} {b2 : Nat} {lg : Nat} {lg_o : Nat} {tx : Nat} {rz : Nat} {ro : Nat} {xea : Int32} {xra : Int32} {xkr : Int32} (ov9 : Int32) (ie9 : Int32) (fi9 : Int32) (h_x : f x = some (.inr (10, [.ref (A (b + 0)), .ref (A (b2 + 0)), .ref lg, .ref lg_o, .ref tx, .ref rz, .ref ro, .int xea, .int xra, .int xkr]))) (v0 : ¬ (X8_isWithin_x1 ov9 1 20) = 0) (v1 : (X8_isWithin_x1 ie9 1 2) = 0) : hMet l yX8_begin cX8_begin 4 (some .int) { frames := 6, cells := 1, slots := 6, locals := 82 } D (hTy cy) f sz [.ref x, .int ov9, .int ie9, .int fi9] (hQi (fun r u => False) D f sz) (fun E u => E = "java/lang/IllegalArgumentException" ∧ u = f) := by
  refine h_enter (by decide) hfl (Nat.le_of_ble_eq_true rfl) ?_
  intro p9 e9 s9 m9 b9 t9 c9 hsz C0 hr hnm G ls hl
  have hx := C0.1.1
  have hb := C0.1.2.1
  have hl : lv_has ls 4 [(0, .ref x), (1, .int ov9), (2, .int ie9), (3, .int fi9)] := hl
  refine lv_iload_n hx hb dX8_begin_0 rfl (lv_at hl 1 rfl) ?_
  refine lv_iconst (v := 1) hx hb dX8_begin_1 (by decide) ?_
  refine lv_bipush (v := 20) hx hb dX8_begin_2 (by decide) ?_
  refine g_cI C0 G (g_runS C0 G (rest := []) (c_X8_isWithin hfl ov9 1 20 ) hY_X8_isWithin mm_X8_56 ms_X8_isWithin ⟨(Nat.le_of_ble_eq_true rfl), (Nat.le_of_ble_eq_true rfl)⟩ rfl hl.1 rfl (Nat.le_of_ble_eq_true rfl) dX8_begin_4 ⟨(Nat.le_of_ble_eq_true rfl), (Nat.le_of_ble_eq_true rfl)⟩) (kx_no rfl) (fun r13 u12 H locs hp11 G => ?_)
  obtain ⟨er14, eu12⟩ := hp11
  rw [eu12] at G
  refine lv_topv (v := (X8_isWithin_x1 ov9 1 20)) er14 ?_
  refine lv_if_eq (tgt := 28) hx hb dX8_begin_7 (by decide) (fun c15 => absurd c15 (v0)) (fun _ => ?_)
  refine lv_iload_n hx hb dX8_begin_10 rfl (lv_at hl 2 rfl) ?_
  refine lv_iconst (v := 1) hx hb dX8_begin_11 (by decide) ?_
  refine lv_iconst (v := 2) hx hb dX8_begin_12 (by decide) ?_
  refine g_cI C0 G (g_runS C0 G (rest := []) (c_X8_isWithin hfl ie9 1 2 ) hY_X8_isWithin mm_X8_56 ms_X8_isWithin ⟨(Nat.le_of_ble_eq_true rfl), (Nat.le_of_ble_eq_true rfl)⟩ rfl hl.1 rfl (Nat.le_of_ble_eq_true rfl) dX8_begin_13 ⟨(Nat.le_of_ble_eq_true rfl), (Nat.le_of_ble_eq_true rfl)⟩) (kx_no rfl) (fun r18 u17 H locs hp16 G => ?_)
  obtain ⟨er19, eu17⟩ := hp16
  rw [eu17] at G
  refine lv_topv (v := (X8_isWithin_x1 ie9 1 2)) er19 ?_
  refine lv_if_eq (tgt := 28) hx hb dX8_begin_16 (by decide) (fun _ => ?_) (fun c20 => absurd (v1) c20)
  exact g_throw C0 G (X := "java/lang/IllegalArgumentException") (by decide) mk_X8_60 mz_java_lang_IllegalArgumentException (is := 62) (text := "overs, innings or team out of range") (by decide) hat_64 hl.1 dX8_begin_28 dX8_begin_31 dX8_begin_32 dX8_begin_34 dX8_begin_37 ⟨(Nat.le_of_ble_eq_true rfl), (Nat.le_of_ble_eq_true rfl)⟩ ⟨(Nat.le_of_ble_eq_true rfl), (Nat.le_of_ble_eq_true rfl)⟩ (Nat.le_of_ble_eq_true rfl) (Nat.le_of_ble_eq_true rfl) (by exact ⟨rfl, rfl⟩)
set_option maxRecDepth 100000 in
theorem c_X8_beginB3 {l : Launch} (hfl : l.stackTraces = false) {D : va_G} {cy : Nat → ClassId} {f : Hf} {sz : Nat} {x : Nat} {A : Nat → Nat} {b : Nat} {b2 : Nat} {lg : Nat} {lg_o : Nat} {tx : Nat} {rz : Nat} {ro : Nat} {xea : Int32} {xra : Int32} {xkr : Int32} (ov9 : Int32) (ie9 : Int32) (fi9 : Int32) (h_x : f x = some (.inr (10, [.ref (A (b + 0)), .ref (A (b2 + 0)), .ref lg, .ref lg_o, .ref tx, .ref rz, .ref ro, .int xea, .int xra, .int xkr]))) (v0 : ¬ (X8_isWithin_x1 ov9 1 20) = 0) (v1 : ¬ (X8_isWithin_x1 ie9 1 2) = 0) (v2 : (X8_isWithin_x1 fi9 0 1) = 0) : hMet l yX8_begin cX8_begin 4 (some .int) { frames := 6, cells := 1, slots := 6, locals := 82 } D (hTy cy) f sz [.ref x, .int ov9, .int ie9, .int fi9] (hQi (fun r u => False) D f sz) (fun E u => E = "java/lang/IllegalArgumentException" ∧ u = f) := by
  refine h_enter (by decide) hfl (Nat.le_of_ble_eq_true rfl) ?_
  intro p9 e9 s9 m9 b9 t9 c9 hsz C0 hr hnm G ls hl
  have hx := C0.1.1
  have hb := C0.1.2.1
  have hl : lv_has ls 4 [(0, .ref x), (1, .int ov9), (2, .int ie9), (3, .int fi9)] := hl
  refine lv_iload_n hx hb dX8_begin_0 rfl (lv_at hl 1 rfl) ?_
  refine lv_iconst (v := 1) hx hb dX8_begin_1 (by decide) ?_
  refine lv_bipush (v := 20) hx hb dX8_begin_2 (by decide) ?_
  refine g_cI C0 G (g_runS C0 G (rest := []) (c_X8_isWithin hfl ov9 1 20 ) hY_X8_isWithin mm_X8_56 ms_X8_isWithin ⟨(Nat.le_of_ble_eq_true rfl), (Nat.le_of_ble_eq_true rfl)⟩ rfl hl.1 rfl (Nat.le_of_ble_eq_true rfl) dX8_begin_4 ⟨(Nat.le_of_ble_eq_true rfl), (Nat.le_of_ble_eq_true rfl)⟩) (kx_no rfl) (fun r13 u12 H locs hp11 G => ?_)
  obtain ⟨er14, eu12⟩ := hp11
  rw [eu12] at G
  refine lv_topv (v := (X8_isWithin_x1 ov9 1 20)) er14 ?_
  refine lv_if_eq (tgt := 28) hx hb dX8_begin_7 (by decide) (fun c15 => absurd c15 (v0)) (fun _ => ?_)
  refine lv_iload_n hx hb dX8_begin_10 rfl (lv_at hl 2 rfl) ?_
  refine lv_iconst (v := 1) hx hb dX8_begin_11 (by decide) ?_
  refine lv_iconst (v := 2) hx hb dX8_begin_12 (by decide) ?_
  refine g_cI C0 G (g_runS C0 G (rest := []) (c_X8_isWithin hfl ie9 1 2 ) hY_X8_isWithin mm_X8_56 ms_X8_isWithin ⟨(Nat.le_of_ble_eq_true rfl), (Nat.le_of_ble_eq_true rfl)⟩ rfl hl.1 rfl (Nat.le_of_ble_eq_true rfl) dX8_begin_13 ⟨(Nat.le_of_ble_eq_true rfl), (Nat.le_of_ble_eq_true rfl)⟩) (kx_no rfl) (fun r18 u17 H locs hp16 G => ?_)
  obtain ⟨er19, eu17⟩ := hp16
  rw [eu17] at G
  refine lv_topv (v := (X8_isWithin_x1 ie9 1 2)) er19 ?_
  refine lv_if_eq (tgt := 28) hx hb dX8_begin_16 (by decide) (fun c20 => absurd c20 (v1)) (fun _ => ?_)
  refine lv_iload_n hx hb dX8_begin_19 rfl (lv_at hl 3 rfl) ?_
  refine lv_iconst (v := 0) hx hb dX8_begin_20 (by decide) ?_
  refine lv_iconst (v := 1) hx hb dX8_begin_21 (by decide) ?_
  refine g_cI C0 G (g_runS C0 G (rest := []) (c_X8_isWithin hfl fi9 0 1 ) hY_X8_isWithin mm_X8_56 ms_X8_isWithin ⟨(Nat.le_of_ble_eq_true rfl), (Nat.le_of_ble_eq_true rfl)⟩ rfl hl.1 rfl (Nat.le_of_ble_eq_true rfl) dX8_begin_22 ⟨(Nat.le_of_ble_eq_true rfl), (Nat.le_of_ble_eq_true rfl)⟩) (kx_no rfl) (fun r23 u22 H locs hp21 G => ?_)
  obtain ⟨er24, eu22⟩ := hp21
  rw [eu22] at G
  refine lv_topv (v := (X8_isWithin_x1 fi9 0 1)) er24 ?_
  refine lv_if_ne (tgt := 38) hx hb dX8_begin_25 (by decide) (fun c25 => absurd (v2) c25) (fun _ => ?_)
  exact g_throw C0 G (X := "java/lang/IllegalArgumentException") (by decide) mk_X8_60 mz_java_lang_IllegalArgumentException (is := 62) (text := "overs, innings or team out of range") (by decide) hat_64 hl.1 dX8_begin_28 dX8_begin_31 dX8_begin_32 dX8_begin_34 dX8_begin_37 ⟨(Nat.le_of_ble_eq_true rfl), (Nat.le_of_ble_eq_true rfl)⟩ ⟨(Nat.le_of_ble_eq_true rfl), (Nat.le_of_ble_eq_true rfl)⟩ (Nat.le_of_ble_eq_true rfl) (Nat.le_of_ble_eq_true rfl) (by exact ⟨rfl, rfl⟩)
set_option maxRecDepth 100000 in
theorem c_X8_beginA {l : Launch} (hfl : l.stackTraces = false) {D : va_G} {cy : Nat → ClassId} {f : Hf} {sz : Nat} {x : Nat} {lg : Nat} {sa : Nat} {ea : Nat} {A : Nat → Nat} {b : Nat} {b2 : Nat} {lg_o : Nat} {tx : Nat} {rz : Nat} {ro : Nat} {xea : Int32} {xra : Int32} {xkr : Int32} {no : Nat} {lo : Int32} {le : Int32} {lfi : Int32} {nS : Nat} {nC : Nat} {lun : Int32} {qs : Nat → Option Nat} {ge : Nat → Int32} {q : Nat → Option Nat} {cm : Nat → Int32} {cs : Nat → Nat → Nat → Int32} (ov9 : Int32) (ie9 : Int32) (fi9 : Int32) (h_x : f x = some (.inr (10, [.ref (A (b + 0)), .ref (A (b2 + 0)), .ref lg, .ref lg_o, .ref tx, .ref rz, .ref ro, .int xea, .int xra, .int xkr]))) (h_lg : f lg = some (.inr (3, [.ref no, .ref sa, .ref ea, .int lo, .int le, .int lfi, .int (nI nS), .int (nI nC), .int lun]))) (h_sa : f sa = some (.inl (cy 4, 512, .inr (.inr (.inr (.inr qs)))))) (h_ea : f ea = some (.inl (cy 0, 512, .inl ge))) (hAj : ∀ i j : Nat, i ≠ j → A i ≠ A j) (hM : MW A b cy q cm cs f) (hQ : HQ A b q) (n_sa : sa ∉ MA A b) (n_ea : ea ∉ MA A b) (v0 : ¬ (X8_isWithin_x1 ov9 1 20) = 0) (v1 : ¬ (X8_isWithin_x1 ie9 1 2) = 0) (v2 : ¬ (X8_isWithin_x1 fi9 0 1) = 0) (hle : X1_hasMatch_x0 ie9 = 1) : hMet l yX8_begin cX8_begin 4 (some .int) { frames := 6, cells := 0, slots := 0, locals := 138 } D (hTy cy) f sz [.ref x, .int ov9, .int ie9, .int fi9] (hQi (fun r u => r = (X3_quota_r0 ov9) ∧ u lg = some (.inr (3, [.ref no, .ref sa, .ref ea, .int ov9, .int ie9, .int fi9, .int 0, .int 0, .int 0])) ∧ MW A b cy q (fl (fun _ _ => 0) (foM cm ie9 fi9) (foS cs ov9 ie9) 0).1 (fl (fun _ _ => 0) (foM cm ie9 fi9) (foS cs ov9 ie9) 0).2 u ∧ hFrL f u (MA A b ++ [lg])) D f sz) hNo := by
  refine h_enter (by decide) hfl (Nat.le_of_ble_eq_true rfl) ?_
  intro p9 e9 s9 m9 b9 t9 c9 hsz C0 hr hnm G ls hl
  have hx := C0.1.1
  have hb := C0.1.2.1
  have hl : lv_has ls 4 [(0, .ref x), (1, .int ov9), (2, .int ie9), (3, .int fi9)] := hl
  refine lv_iload_n hx hb dX8_begin_0 rfl (lv_at hl 1 rfl) ?_
  refine lv_iconst (v := 1) hx hb dX8_begin_1 (by decide) ?_
  refine lv_bipush (v := 20) hx hb dX8_begin_2 (by decide) ?_
  refine g_cI C0 G (g_runS C0 G (rest := []) (c_X8_isWithin hfl ov9 1 20 ) hY_X8_isWithin mm_X8_56 ms_X8_isWithin ⟨(Nat.le_of_ble_eq_true rfl), (Nat.le_of_ble_eq_true rfl)⟩ rfl hl.1 rfl (Nat.le_of_ble_eq_true rfl) dX8_begin_4 ⟨(Nat.le_of_ble_eq_true rfl), (Nat.le_of_ble_eq_true rfl)⟩) (kx_no rfl) (fun r13 u12 H locs hp11 G => ?_)
  obtain ⟨er14, eu12⟩ := hp11
  rw [eu12] at G
  refine lv_topv (v := (X8_isWithin_x1 ov9 1 20)) er14 ?_
  refine lv_if_eq (tgt := 28) hx hb dX8_begin_7 (by decide) (fun c15 => absurd c15 (v0)) (fun _ => ?_)
  refine lv_iload_n hx hb dX8_begin_10 rfl (lv_at hl 2 rfl) ?_
  refine lv_iconst (v := 1) hx hb dX8_begin_11 (by decide) ?_
  refine lv_iconst (v := 2) hx hb dX8_begin_12 (by decide) ?_
  refine g_cI C0 G (g_runS C0 G (rest := []) (c_X8_isWithin hfl ie9 1 2 ) hY_X8_isWithin mm_X8_56 ms_X8_isWithin ⟨(Nat.le_of_ble_eq_true rfl), (Nat.le_of_ble_eq_true rfl)⟩ rfl hl.1 rfl (Nat.le_of_ble_eq_true rfl) dX8_begin_13 ⟨(Nat.le_of_ble_eq_true rfl), (Nat.le_of_ble_eq_true rfl)⟩) (kx_no rfl) (fun r18 u17 H locs hp16 G => ?_)
  obtain ⟨er19, eu17⟩ := hp16
  rw [eu17] at G
  refine lv_topv (v := (X8_isWithin_x1 ie9 1 2)) er19 ?_
  refine lv_if_eq (tgt := 28) hx hb dX8_begin_16 (by decide) (fun c20 => absurd c20 (v1)) (fun _ => ?_)
  refine lv_iload_n hx hb dX8_begin_19 rfl (lv_at hl 3 rfl) ?_
  refine lv_iconst (v := 0) hx hb dX8_begin_20 (by decide) ?_
  refine lv_iconst (v := 1) hx hb dX8_begin_21 (by decide) ?_
  refine g_cI C0 G (g_runS C0 G (rest := []) (c_X8_isWithin hfl fi9 0 1 ) hY_X8_isWithin mm_X8_56 ms_X8_isWithin ⟨(Nat.le_of_ble_eq_true rfl), (Nat.le_of_ble_eq_true rfl)⟩ rfl hl.1 rfl (Nat.le_of_ble_eq_true rfl) dX8_begin_22 ⟨(Nat.le_of_ble_eq_true rfl), (Nat.le_of_ble_eq_true rfl)⟩) (kx_no rfl) (fun r23 u22 H locs hp21 G => ?_)
  obtain ⟨er24, eu22⟩ := hp21
  rw [eu22] at G
  refine lv_topv (v := (X8_isWithin_x1 fi9 0 1)) er24 ?_
  refine lv_if_ne (tgt := 38) hx hb dX8_begin_25 (by decide) (fun _ => ?_) (fun c25 => absurd c25 (v2))
  refine lv_aload_n hx hb dX8_begin_38 rfl (lv_at hl 0 rfl) ?_
  refine g_get C0 G h_x rfl hiX8 2 (by decide) mf_X8_22 rfl dX8_begin_39 ?_
  refine lv_iload_n hx hb dX8_begin_42 rfl (lv_at hl 1 rfl) ?_
  refine lv_iload_n hx hb dX8_begin_43 rfl (lv_at hl 2 rfl) ?_
  refine lv_iload_n hx hb dX8_begin_44 rfl (lv_at hl 3 rfl) ?_
  refine g_cV C0 G (g_runV C0 G (rest := []) (c_X1_start hfl (lo := lo) (le := le) (lfi := lfi) (lsc := nI nS) (lcm := nI nC) (lun := lun) ov9 ie9 fi9 h_lg) h_lg rfl hY_X1_start mm_X8_67 mi_X1_start ml_X1_start ⟨(Nat.le_of_ble_eq_true rfl), (Nat.le_of_ble_eq_true rfl)⟩ rfl hl.1 rfl (Nat.le_of_ble_eq_true rfl) dX8_begin_45 ⟨(Nat.le_of_ble_eq_true rfl), (Nat.le_of_ble_eq_true rfl)⟩) (kx_no rfl) (fun u27 H locs hp26 G => ?_)
  obtain ⟨k28, fr29⟩ := hp26
  refine lv_aload_n hx hb dX8_begin_48 rfl (lv_at hl 0 rfl) ?_
  have k30 : u27 x = some (.inr (10, [.ref (A (b + 0)), .ref (A (b2 + 0)), .ref lg, .ref lg_o, .ref tx, .ref rz, .ref ro, .int xea, .int xra, .int xkr])) := fr29 _ _ (by simp only [List.mem_cons, List.not_mem_nil, or_false]; intro q; exact (hne h_x h_lg (by intro q; cases q)) q) h_x
  refine g_get C0 G k30 rfl hiX8 0 (by decide) mf_X8_10 rfl dX8_begin_49 ?_
  refine lv_aload_n hx hb dX8_begin_52 rfl (lv_at hl 0 rfl) ?_
  refine g_get C0 G k30 rfl hiX8 2 (by decide) mf_X8_22 rfl dX8_begin_53 ?_
  have hM31 := MW_frN hM fr29 (fun y9 hy9 => by simp only [List.mem_cons, List.not_mem_nil, or_false] at hy9; rw [hy9]; exact (MW_kind hM h_lg (by decide)))
  have k32 : u27 sa = some (.inl (cy 4, 512, .inr (.inr (.inr (.inr qs))))) := fr29 _ _ (by simp only [List.mem_cons, List.not_mem_nil, or_false]; intro q; exact (hne h_sa h_lg (by intro q; cases q)) q) h_sa
  have k33 : u27 (A (b + 0)) = some (.inr (4, [.ref (A (b + 1)), .int (cm 0), .int (cm 1), .int (cm 2), .int (cm 3), .int (cm 4)])) := hM31 0 (by omega)
  refine g_cV C0 G (g_runV C0 G (rest := []) (u_X2_follow hfl (nS := 0) (sq := (fun _ => 0)) (SS := (fun _ _ => 0)) k28 k32 hAj hM31 hQ hle (by omega) (MW_kind hM h_lg (by decide)) n_sa (fun j hj => absurd hj (by omega)) (fun j hj => absurd hj (by omega))) k33 rfl hY_X2_follow mm_X8_71 mi_X2_follow ml_X2_follow ⟨(Nat.le_of_ble_eq_true rfl), (Nat.le_of_ble_eq_true rfl)⟩ rfl hl.1 rfl (Nat.le_of_ble_eq_true rfl) dX8_begin_56 ⟨(Nat.le_of_ble_eq_true rfl), (Nat.le_of_ble_eq_true rfl)⟩) (kx_no rfl) (fun u35 H locs hp34 G => ?_)
  obtain ⟨hM36, fr37⟩ := hp34
  refine lv_iload_n hx hb dX8_begin_59 rfl (lv_at hl 1 rfl) ?_
  refine g_cI C0 G (g_runS C0 G (rest := []) (c_X3_quota hfl ov9 ) hY_X3_quota mm_X8_75 ms_X3_quota ⟨(Nat.le_of_ble_eq_true rfl), (Nat.le_of_ble_eq_true rfl)⟩ rfl hl.1 rfl (Nat.le_of_ble_eq_true rfl) dX8_begin_60 ⟨(Nat.le_of_ble_eq_true rfl), (Nat.le_of_ble_eq_true rfl)⟩) (kx_no rfl) (fun r40 u39 H locs hp38 G => ?_)
  obtain ⟨er41, eu39⟩ := hp38
  rw [eu39] at G
  refine lv_topv (v := (X3_quota_r0 ov9)) er41 ?_
  have k42 : u35 lg = some (.inr (3, [.ref no, .ref sa, .ref ea, .int ov9, .int ie9, .int fi9, .int 0, .int 0, .int 0])) := fr37 _ _ (MW_kind hM h_lg (by decide)) k28
  exact g_iret C0 G hr dX8_begin_63 (Nat.le_of_ble_eq_true rfl) (Nat.le_of_ble_eq_true rfl) (by exact ⟨rfl, k42, hM36, (fun a9 e9 h7 h8 => fr37 _ _ (fun q => h7 (by simp [q])) (fr29 _ _ (fun q => h7 (by simp only [List.mem_cons, List.not_mem_nil, or_false] at q ⊢; first | exact q | (rcases q with q <;> simp [q]) | omega)) (h8)))⟩)
set_option maxRecDepth 100000 in
theorem c_X8_undoN {l : Launch} (hfl : l.stackTraces = false) {D : va_G} {cy : Nat → ClassId} {f : Hf} {sz : Nat} {x : Nat} {lg : Nat} {sa : Nat} {ea : Nat} {A : Nat → Nat} {b : Nat} {b2 : Nat} {lg_o : Nat} {tx : Nat} {rz : Nat} {ro : Nat} {xea : Int32} {xra : Int32} {xkr : Int32} {no : Nat} {lo : Int32} {le : Int32} {lfi : Int32} {nS : Nat} {nC : Nat} {lun : Int32} {qs : Nat → Option Nat} {ge : Nat → Int32} (h_x : f x = some (.inr (10, [.ref (A (b + 0)), .ref (A (b2 + 0)), .ref lg, .ref lg_o, .ref tx, .ref rz, .ref ro, .int xea, .int xra, .int xkr]))) (h_lg : f lg = some (.inr (3, [.ref no, .ref sa, .ref ea, .int lo, .int le, .int lfi, .int (nI nS), .int (nI nC), .int lun]))) (h_sa : f sa = some (.inl (cy 4, 512, .inr (.inr (.inr (.inr qs)))))) (h_ea : f ea = some (.inl (cy 0, 512, .inl ge))) (v0 : lun = 0) : hMet l yX8_undo cX8_undo 1 (some .int) { frames := 6, cells := 1, slots := 6, locals := 82 } D (hTy cy) f sz [.ref x] (hQi (fun r u => False) D f sz) (fun E u => E = "java/lang/IllegalStateException" ∧ u x = some (.inr (10, [.ref (A (b + 0)), .ref (A (b2 + 0)), .ref lg, .ref lg_o, .ref tx, .ref rz, .ref ro, .int xea, .int xra, .int 7])) ∧ hFrL f u [x]) := by
  refine h_enter (by decide) hfl (Nat.le_of_ble_eq_true rfl) ?_
  intro p9 e9 s9 m9 b9 t9 c9 hsz C0 hr hnm G ls hl
  have hx := C0.1.1
  have hb := C0.1.2.1
  have hl : lv_has ls 1 [(0, .ref x)] := hl
  refine lv_aload_n hx hb dX8_undo_0 rfl (lv_at hl 0 rfl) ?_
  refine g_get C0 G h_x rfl hiX8 2 (by decide) mf_X8_22 rfl dX8_undo_1 ?_
  refine g_get C0 G h_lg rfl hiX1 8 (by decide) mf_X8_317 rfl dX8_undo_4 ?_
  refine lv_if_ne (tgt := 27) hx hb dX8_undo_7 (by decide) (fun c11 => absurd (v0) c11) (fun _ => ?_)
  refine lv_aload_n hx hb dX8_undo_10 rfl (lv_at hl 0 rfl) ?_
  refine lv_bipush (v := 7) hx hb dX8_undo_11 (by decide) ?_
  refine g_put C0 G h_x rfl hiX8 tyX8 tyX8_ok nmX8 9 (by decide) mf_X8_53 rfl rfl rfl rfl (Nat.le_of_ble_eq_true rfl) dX8_undo_13 (fun H locs f12 hf12 G => ?_)
  have k13 : f12 x = some (.inr (10, [.ref (A (b + 0)), .ref (A (b2 + 0)), .ref lg, .ref lg_o, .ref tx, .ref rz, .ref ro, .int xea, .int xra, .int 7])) := hus hf12
  exact g_throwW C0 G (X := "java/lang/IllegalStateException") (by decide) mk_X8_131 mz_java_lang_IllegalStateException (is := 320) (text := "nothing to undo") (by decide) hat_135 hl.1 dX8_undo_16 dX8_undo_19 dX8_undo_20 dX8_undo_23 dX8_undo_26 ⟨(Nat.le_of_ble_eq_true rfl), (Nat.le_of_ble_eq_true rfl)⟩ ⟨(Nat.le_of_ble_eq_true rfl), (Nat.le_of_ble_eq_true rfl)⟩ (Nat.le_of_ble_eq_true rfl) (Nat.le_of_ble_eq_true rfl) (by exact ⟨rfl, k13, (fun a9 e9 h7 h8 => hup hf12 (fun q => h7 (by rw [q]; simp)) (h8))⟩)
def X8_undo1_r0 (lun : Int32) : Int32 := lun - 1
set_option maxRecDepth 100000 in
theorem c_X8_undo1 {l : Launch} (hfl : l.stackTraces = false) {D : va_G} {cy : Nat → ClassId} {f : Hf} {sz : Nat} {x : Nat} {lg : Nat} {sa : Nat} {ea : Nat} {A : Nat → Nat} {b : Nat} {b2 : Nat} {lg_o : Nat} {tx : Nat} {rz : Nat} {ro : Nat} {xea : Int32} {xra : Int32} {xkr : Int32} {no : Nat} {lo : Int32} {le : Int32} {lfi : Int32} {nS : Nat} {lun : Int32} {qs : Nat → Option Nat} {ge : Nat → Int32} {q : Nat → Option Nat} {cm : Nat → Int32} {cs : Nat → Nat → Nat → Int32} (h_x : f x = some (.inr (10, [.ref (A (b + 0)), .ref (A (b2 + 0)), .ref lg, .ref lg_o, .ref tx, .ref rz, .ref ro, .int xea, .int xra, .int xkr]))) (h_lg : f lg = some (.inr (3, [.ref no, .ref sa, .ref ea, .int lo, .int le, .int lfi, .int (nI nS), .int 1, .int lun]))) (h_sa : f sa = some (.inl (cy 4, 512, .inr (.inr (.inr (.inr qs)))))) (h_ea : f ea = some (.inl (cy 0, 512, .inl ge))) (hAj : ∀ i j : Nat, i ≠ j → A i ≠ A j) (hM : MW A b cy q cm cs f) (hQ : HQ A b q) (n_sa : sa ∉ MA A b) (n_ea : ea ∉ MA A b) (v0 : ¬ lun = 0) (hle : X1_hasMatch_x0 le = 1) : hMet l yX8_undo cX8_undo 1 (some .int) { frames := 6, cells := 0, slots := 0, locals := 138 } D (hTy cy) f sz [.ref x] (hQi (fun r u => r = (X8_undo1_r0 lun) ∧ u lg = some (.inr (3, [.ref no, .ref sa, .ref ea, .int lo, .int le, .int lfi, .int 0, .int 0, .int (lun - 1)])) ∧ MW A b cy q (fl (fun _ _ => 0) (foM cm le lfi) (foS cs lo le) 0).1 (fl (fun _ _ => 0) (foM cm le lfi) (foS cs lo le) 0).2 u ∧ hFrL f u (MA A b ++ [lg])) D f sz) hNo := by
  refine h_enter (by decide) hfl (Nat.le_of_ble_eq_true rfl) ?_
  intro p9 e9 s9 m9 b9 t9 c9 hsz C0 hr hnm G ls hl
  have hx := C0.1.1
  have hb := C0.1.2.1
  have hl : lv_has ls 1 [(0, .ref x)] := hl
  refine lv_aload_n hx hb dX8_undo_0 rfl (lv_at hl 0 rfl) ?_
  refine g_get C0 G h_x rfl hiX8 2 (by decide) mf_X8_22 rfl dX8_undo_1 ?_
  refine g_get C0 G h_lg rfl hiX1 8 (by decide) mf_X8_317 rfl dX8_undo_4 ?_
  refine lv_if_ne (tgt := 27) hx hb dX8_undo_7 (by decide) (fun _ => ?_) (fun c11 => absurd c11 (v0))
  refine lv_aload_n hx hb dX8_undo_27 rfl (lv_at hl 0 rfl) ?_
  refine g_get C0 G h_x rfl hiX8 2 (by decide) mf_X8_22 rfl dX8_undo_28 ?_
  refine g_cV C0 G (g_runV C0 G (rest := []) (c_X1_dropCommand1 hfl (lo := lo) (le := le) (lfi := lfi) (lsc := nI nS) (lun := lun) (ge := ge) h_lg h_ea) h_lg rfl hY_X1_dropCommand mm_X8_322 mi_X1_dropCommand ml_X1_dropCommand ⟨(Nat.le_of_ble_eq_true rfl), (Nat.le_of_ble_eq_true rfl)⟩ rfl hl.1 rfl (Nat.le_of_ble_eq_true rfl) dX8_undo_31 ⟨(Nat.le_of_ble_eq_true rfl), (Nat.le_of_ble_eq_true rfl)⟩) (kx_no rfl) (fun u13 H locs hp12 G => ?_)
  obtain ⟨k14, fr15⟩ := hp12
  refine lv_aload_n hx hb dX8_undo_34 rfl (lv_at hl 0 rfl) ?_
  have k16 : u13 x = some (.inr (10, [.ref (A (b + 0)), .ref (A (b2 + 0)), .ref lg, .ref lg_o, .ref tx, .ref rz, .ref ro, .int xea, .int xra, .int xkr])) := fr15 _ _ (by simp only [List.mem_cons, List.not_mem_nil, or_false]; intro q; exact (hne h_x h_lg (by intro q; cases q)) q) h_x
  refine g_get C0 G k16 rfl hiX8 0 (by decide) mf_X8_10 rfl dX8_undo_35 ?_
  refine lv_aload_n hx hb dX8_undo_38 rfl (lv_at hl 0 rfl) ?_
  refine g_get C0 G k16 rfl hiX8 2 (by decide) mf_X8_22 rfl dX8_undo_39 ?_
  have hM17 := MW_frN hM fr15 (fun y9 hy9 => by simp only [List.mem_cons, List.not_mem_nil, or_false] at hy9; rw [hy9]; exact (MW_kind hM h_lg (by decide)))
  have k18 : u13 sa = some (.inl (cy 4, 512, .inr (.inr (.inr (.inr qs))))) := fr15 _ _ (by simp only [List.mem_cons, List.not_mem_nil, or_false]; intro q; exact (hne h_sa h_lg (by intro q; cases q)) q) h_sa
  have k19 : u13 (A (b + 0)) = some (.inr (4, [.ref (A (b + 1)), .int (cm 0), .int (cm 1), .int (cm 2), .int (cm 3), .int (cm 4)])) := hM17 0 (by omega)
  refine g_cV C0 G (g_runV C0 G (rest := []) (u_X2_follow hfl (nS := 0) (sq := (fun _ => 0)) (SS := (fun _ _ => 0)) k14 k18 hAj hM17 hQ hle (by omega) (MW_kind hM h_lg (by decide)) n_sa (fun j hj => absurd hj (by omega)) (fun j hj => absurd hj (by omega))) k19 rfl hY_X2_follow mm_X8_71 mi_X2_follow ml_X2_follow ⟨(Nat.le_of_ble_eq_true rfl), (Nat.le_of_ble_eq_true rfl)⟩ rfl hl.1 rfl (Nat.le_of_ble_eq_true rfl) dX8_undo_42 ⟨(Nat.le_of_ble_eq_true rfl), (Nat.le_of_ble_eq_true rfl)⟩) (kx_no rfl) (fun u21 H locs hp20 G => ?_)
  obtain ⟨hM22, fr23⟩ := hp20
  refine lv_aload_n hx hb dX8_undo_45 rfl (lv_at hl 0 rfl) ?_
  have k24 : u21 x = some (.inr (10, [.ref (A (b + 0)), .ref (A (b2 + 0)), .ref lg, .ref lg_o, .ref tx, .ref rz, .ref ro, .int xea, .int xra, .int xkr])) := fr23 _ _ (MW_kind hM h_x (by decide)) k16
  refine g_get C0 G k24 rfl hiX8 2 (by decide) mf_X8_22 rfl dX8_undo_46 ?_
  have k25 : u21 lg = some (.inr (3, [.ref no, .ref sa, .ref ea, .int lo, .int le, .int lfi, .int 0, .int 0, .int (lun - 1)])) := fr23 _ _ (MW_kind hM h_lg (by decide)) k14
  refine g_get C0 G k25 rfl hiX1 8 (by decide) mf_X8_317 rfl dX8_undo_49 ?_
  exact g_iret C0 G hr dX8_undo_52 (Nat.le_of_ble_eq_true rfl) (Nat.le_of_ble_eq_true rfl) (by exact ⟨(by rw [X8_undo1_r0]), k25, hM22, (fun a9 e9 h7 h8 => fr23 _ _ (fun q => h7 (by simp [q])) (fr15 _ _ (fun q => h7 (by simp only [List.mem_cons, List.not_mem_nil, or_false] at q ⊢; first | exact q | (rcases q with q <;> simp [q]) | omega)) (h8)))⟩)
def X8_undoS_r0 (lun : Int32) : Int32 := lun - 1
set_option maxRecDepth 100000 in
theorem c_X8_undoS {l : Launch} (hfl : l.stackTraces = false) {D : va_G} {cy : Nat → ClassId} {f : Hf} {sz : Nat} {x : Nat} {lg : Nat} {sa : Nat} {ea : Nat} {A : Nat → Nat} {b : Nat} {b2 : Nat} {lg_o : Nat} {tx : Nat} {rz : Nat} {ro : Nat} {xea : Int32} {xra : Int32} {xkr : Int32} {no : Nat} {lo : Int32} {le : Int32} {lfi : Int32} {nS : Nat} {nC : Nat} {lun : Int32} {qs : Nat → Option Nat} {ge : Nat → Int32} {q : Nat → Option Nat} {cm : Nat → Int32} {cs : Nat → Nat → Nat → Int32} {nS1 : Nat} {sq : Nat → Nat} {SS : Nat → Nat → Int32} (h_x : f x = some (.inr (10, [.ref (A (b + 0)), .ref (A (b2 + 0)), .ref lg, .ref lg_o, .ref tx, .ref rz, .ref ro, .int xea, .int xra, .int xkr]))) (h_lg : f lg = some (.inr (3, [.ref no, .ref sa, .ref ea, .int lo, .int le, .int lfi, .int (nI nS), .int (nI nC), .int lun]))) (h_sa : f sa = some (.inl (cy 4, 512, .inr (.inr (.inr (.inr qs)))))) (h_ea : f ea = some (.inl (cy 0, 512, .inl ge))) (hAj : ∀ i j : Nat, i ≠ j → A i ≠ A j) (hM : MW A b cy q cm cs f) (hQ : HQ A b q) (n_sa : sa ∉ MA A b) (n_ea : ea ∉ MA A b) (v0 : ¬ lun = 0) (hle : X1_hasMatch_x0 le = 1) (hnC : nC ≤ 512) (hnC2 : 2 ≤ nC) (hge : ge (nC - 1 - 1) = nI nS1) (hS1 : nS1 ≤ nS) (hnS1 : nS1 ≤ 512) (hsq : ∀ j : Nat, j < nS → qs j = some (sq j) ∧ f (sq j) = some (scell (SS j))) (hpp : ∀ j : Nat, j < nS1 → PP (fl SS (foM cm le lfi) (foS cs lo le) j).1 (fl SS (foM cm le lfi) (foS cs lo le) j).2) : hMet l yX8_undo cX8_undo 1 (some .int) { frames := 6, cells := 0, slots := 0, locals := 138 } D (hTy cy) f sz [.ref x] (hQi (fun r u => r = (X8_undoS_r0 lun) ∧ u lg = some (.inr (3, [.ref no, .ref sa, .ref ea, .int lo, .int le, .int lfi, .int (ge ((nC - 1) - 1)), .int (nI (nC - 1)), .int (lun - 1)])) ∧ MW A b cy q (fl SS (foM cm le lfi) (foS cs lo le) nS1).1 (fl SS (foM cm le lfi) (foS cs lo le) nS1).2 u ∧ hFrL f u (MA A b ++ [lg])) D f sz) hNo := by
  refine h_enter (by decide) hfl (Nat.le_of_ble_eq_true rfl) ?_
  intro p9 e9 s9 m9 b9 t9 c9 hsz C0 hr hnm G ls hl
  have hx := C0.1.1
  have hb := C0.1.2.1
  have hl : lv_has ls 1 [(0, .ref x)] := hl
  refine lv_aload_n hx hb dX8_undo_0 rfl (lv_at hl 0 rfl) ?_
  refine g_get C0 G h_x rfl hiX8 2 (by decide) mf_X8_22 rfl dX8_undo_1 ?_
  refine g_get C0 G h_lg rfl hiX1 8 (by decide) mf_X8_317 rfl dX8_undo_4 ?_
  refine lv_if_ne (tgt := 27) hx hb dX8_undo_7 (by decide) (fun _ => ?_) (fun c11 => absurd c11 (v0))
  refine lv_aload_n hx hb dX8_undo_27 rfl (lv_at hl 0 rfl) ?_
  refine g_get C0 G h_x rfl hiX8 2 (by decide) mf_X8_22 rfl dX8_undo_28 ?_
  refine g_cV C0 G (g_runV C0 G (rest := []) (c_X1_dropCommandS hfl (lo := lo) (le := le) (lfi := lfi) (lsc := nI nS) (lun := lun) (nC := nC) (ge := ge) h_lg h_ea hnC hnC2) h_lg rfl hY_X1_dropCommand mm_X8_322 mi_X1_dropCommand ml_X1_dropCommand ⟨(Nat.le_of_ble_eq_true rfl), (Nat.le_of_ble_eq_true rfl)⟩ rfl hl.1 rfl (Nat.le_of_ble_eq_true rfl) dX8_undo_31 ⟨(Nat.le_of_ble_eq_true rfl), (Nat.le_of_ble_eq_true rfl)⟩) (kx_no rfl) (fun u13 H locs hp12 G => ?_)
  obtain ⟨k14, fr15⟩ := hp12
  refine lv_aload_n hx hb dX8_undo_34 rfl (lv_at hl 0 rfl) ?_
  have k16 : u13 x = some (.inr (10, [.ref (A (b + 0)), .ref (A (b2 + 0)), .ref lg, .ref lg_o, .ref tx, .ref rz, .ref ro, .int xea, .int xra, .int xkr])) := fr15 _ _ (by simp only [List.mem_cons, List.not_mem_nil, or_false]; intro q; exact (hne h_x h_lg (by intro q; cases q)) q) h_x
  refine g_get C0 G k16 rfl hiX8 0 (by decide) mf_X8_10 rfl dX8_undo_35 ?_
  refine lv_aload_n hx hb dX8_undo_38 rfl (lv_at hl 0 rfl) ?_
  refine g_get C0 G k16 rfl hiX8 2 (by decide) mf_X8_22 rfl dX8_undo_39 ?_
  have hq917 := sq_fr (show hFrL f u13 [lg] from fun a9 e9 h7 h8 => fr15 _ _ (fun q => h7 (by simp only [List.mem_cons, List.not_mem_nil, or_false] at q ⊢; first | exact q | (rcases q with q <;> simp [q]) | omega)) (h8)) (fun y hy Z => by simp only [List.mem_cons, List.not_mem_nil, or_false] at hy; rcases hy with rfl <;> (first | (rw [h_lg]) | (rw [h_sa]) | (rw [h_ea])) <;> simp [scell]) hsq
  have hM18 := MW_frN hM fr15 (fun y9 hy9 => by simp only [List.mem_cons, List.not_mem_nil, or_false] at hy9; rw [hy9]; exact (MW_kind hM h_lg (by decide)))
  have k19 : u13 sa = some (.inl (cy 4, 512, .inr (.inr (.inr (.inr qs))))) := fr15 _ _ (by simp only [List.mem_cons, List.not_mem_nil, or_false]; intro q; exact (hne h_sa h_lg (by intro q; cases q)) q) h_sa
  have k20 := k14
  rw [hge] at k20
  have k21 : u13 (A (b + 0)) = some (.inr (4, [.ref (A (b + 1)), .int (cm 0), .int (cm 1), .int (cm 2), .int (cm 3), .int (cm 4)])) := hM18 0 (by omega)
  refine g_cV C0 G (g_runV C0 G (rest := []) (u_X2_follow hfl (nS := nS1) (sq := sq) (SS := SS) k20 k19 hAj hM18 hQ hle hnS1 (MW_kind hM h_lg (by decide)) n_sa (sq_le hS1 hq917) hpp) k21 rfl hY_X2_follow mm_X8_71 mi_X2_follow ml_X2_follow ⟨(Nat.le_of_ble_eq_true rfl), (Nat.le_of_ble_eq_true rfl)⟩ rfl hl.1 rfl (Nat.le_of_ble_eq_true rfl) dX8_undo_42 ⟨(Nat.le_of_ble_eq_true rfl), (Nat.le_of_ble_eq_true rfl)⟩) (kx_no rfl) (fun u23 H locs hp22 G => ?_)
  obtain ⟨hM24, fr25⟩ := hp22
  refine lv_aload_n hx hb dX8_undo_45 rfl (lv_at hl 0 rfl) ?_
  have k26 : u23 x = some (.inr (10, [.ref (A (b + 0)), .ref (A (b2 + 0)), .ref lg, .ref lg_o, .ref tx, .ref rz, .ref ro, .int xea, .int xra, .int xkr])) := fr25 _ _ (MW_kind hM h_x (by decide)) k16
  refine g_get C0 G k26 rfl hiX8 2 (by decide) mf_X8_22 rfl dX8_undo_46 ?_
  have k27 : u23 lg = some (.inr (3, [.ref no, .ref sa, .ref ea, .int lo, .int le, .int lfi, .int (ge ((nC - 1) - 1)), .int (nI (nC - 1)), .int (lun - 1)])) := fr25 _ _ (MW_kind hM h_lg (by decide)) k14
  refine g_get C0 G k27 rfl hiX1 8 (by decide) mf_X8_317 rfl dX8_undo_49 ?_
  exact g_iret C0 G hr dX8_undo_52 (Nat.le_of_ble_eq_true rfl) (Nat.le_of_ble_eq_true rfl) (by exact ⟨(by rw [X8_undoS_r0]), k27, hM24, (fun a9 e9 h7 h8 => fr25 _ _ (fun q => h7 (by simp [q])) (fr15 _ _ (fun q => h7 (by simp only [List.mem_cons, List.not_mem_nil, or_false] at q ⊢; first | exact q | (rcases q with q <;> simp [q]) | omega)) (h8)))⟩)
set_option maxRecDepth 100000 in
theorem c_X8_snapshotN {l : Launch} (hfl : l.stackTraces = false) {D : va_G} {cy : Nat → ClassId} {f : Hf} {sz : Nat} {x : Nat} {lg : Nat} {sa : Nat} {ea : Nat} {A : Nat → Nat} {b : Nat} {b2 : Nat} {lg_o : Nat} {tx : Nat} {rz : Nat} {ro : Nat} {xea : Int32} {xra : Int32} {xkr : Int32} {no : Nat} {lo : Int32} {le : Int32} {lfi : Int32} {nS : Nat} {nC : Nat} {lun : Int32} {qs : Nat → Option Nat} {ge : Nat → Int32} (h_x : f x = some (.inr (10, [.ref (A (b + 0)), .ref (A (b2 + 0)), .ref lg, .ref lg_o, .ref tx, .ref rz, .ref ro, .int xea, .int xra, .int xkr]))) (h_lg : f lg = some (.inr (3, [.ref no, .ref sa, .ref ea, .int lo, .int le, .int lfi, .int (nI nS), .int (nI nC), .int lun]))) (h_sa : f sa = some (.inl (cy 4, 512, .inr (.inr (.inr (.inr qs)))))) (h_ea : f ea = some (.inl (cy 0, 512, .inl ge))) (v0 : (X1_hasMatch_x0 le) = 0) : hMet l yX8_snapshot cX8_snapshot 1 (some .int) { frames := 7, cells := 1, slots := 6, locals := 102 } D (hTy cy) f sz [.ref x] (hQi (fun r u => False) D f sz) (fun E u => E = "java/lang/IllegalStateException" ∧ u x = some (.inr (10, [.ref (A (b + 0)), .ref (A (b2 + 0)), .ref lg, .ref lg_o, .ref tx, .ref rz, .ref ro, .int xea, .int xra, .int 1])) ∧ hFrL f u [x]) := by
  refine h_enter (by decide) hfl (Nat.le_of_ble_eq_true rfl) ?_
  intro p9 e9 s9 m9 b9 t9 c9 hsz C0 hr hnm G ls hl
  have hx := C0.1.1
  have hb := C0.1.2.1
  have hl : lv_has ls 1 [(0, .ref x)] := hl
  refine lv_aload_n hx hb dX8_snapshot_0 rfl (lv_at hl 0 rfl) ?_
  exact g_cV C0 G (g_runV C0 G (rest := []) (c_X8_demandMatchN hfl (A := A) (b := b) (b2 := b2) (xea := xea) (xra := xra) (xkr := xkr) (lo := lo) (le := le) (lfi := lfi) (nS := nS) (nC := nC) (lun := lun) (qs := qs) (ge := ge) h_x h_lg h_sa h_ea v0) h_x rfl hY_X8_demandMatch mm_X8_194 mi_X8_demandMatch ml_X8_demandMatch ⟨(Nat.le_of_ble_eq_true rfl), (Nat.le_of_ble_eq_true rfl)⟩ rfl hl.1 rfl (Nat.le_of_ble_eq_true rfl) dX8_snapshot_1 ⟨(Nat.le_of_ble_eq_true rfl), (Nat.le_of_ble_eq_true rfl)⟩) (kx_out C0 (Nat.le_of_ble_eq_true rfl) (Nat.le_of_ble_eq_true rfl) (fun E9 u9 h9 => by
      obtain ⟨hE9, k11, fr12⟩ := h9
      exact ⟨hE9, k11, (fun a9 e9 h7 h8 => fr12 _ _ (fun q => h7 (by simp only [List.mem_cons, List.not_mem_nil, or_false] at q ⊢; first | exact q | (rcases q with q <;> simp [q]) | omega)) (h8))⟩)) (fun _ _ _ h9 _ => (h9).elim)
def X8_snapshotY_r0 (nC : Nat) : Int32 := nI nC
def X8_snapshotY_g1 (ge : Nat → Int32) (ge_o : Nat → Int32) : Nat → Int32 := (X1_copy_g0 ge_o ge)
set_option maxRecDepth 100000 in
theorem c_X8_snapshotY {l : Launch} (hfl : l.stackTraces = false) {D : va_G} {cy : Nat → ClassId} {f : Hf} {sz : Nat} {x : Nat} {lg : Nat} {sa : Nat} {ea : Nat} {lg_o : Nat} {sa_o : Nat} {ea_o : Nat} {A : Nat → Nat} {b : Nat} {b2 : Nat} {tx : Nat} {rz : Nat} {ro : Nat} {xea : Int32} {xra : Int32} {xkr : Int32} {no : Nat} {lo : Int32} {le : Int32} {lfi : Int32} {nS : Nat} {nC : Nat} {lun : Int32} {qs : Nat → Option Nat} {ge : Nat → Int32} {no_o : Nat} {lo_o : Int32} {le_o : Int32} {lfi_o : Int32} {nS_o : Nat} {nC_o : Nat} {lun_o : Int32} {qs_o : Nat → Option Nat} {ge_o : Nat → Int32} {sq : Nat → Nat} {SS : Nat → Nat → Int32} (h_x : f x = some (.inr (10, [.ref (A (b + 0)), .ref (A (b2 + 0)), .ref lg, .ref lg_o, .ref tx, .ref rz, .ref ro, .int xea, .int xra, .int xkr]))) (h_lg : f lg = some (.inr (3, [.ref no, .ref sa, .ref ea, .int lo, .int le, .int lfi, .int (nI nS), .int (nI nC), .int lun]))) (h_sa : f sa = some (.inl (cy 4, 512, .inr (.inr (.inr (.inr qs)))))) (h_ea : f ea = some (.inl (cy 0, 512, .inl ge))) (h_lg_o : f lg_o = some (.inr (3, [.ref no_o, .ref sa_o, .ref ea_o, .int lo_o, .int le_o, .int lfi_o, .int (nI nS_o), .int (nI nC_o), .int lun_o]))) (h_sa_o : f sa_o = some (.inl (cy 4, 512, .inr (.inr (.inr (.inr qs_o)))))) (h_ea_o : f ea_o = some (.inl (cy 0, 512, .inl ge_o))) (v0 : ¬ (X1_hasMatch_x0 le) = 0) (d1 : lg_o ≠ lg) (d2 : sa_o ≠ sa) (d3 : ea_o ≠ ea) (hnS : nS ≤ 512) (hsq : ∀ j : Nat, j < nS → qs j = some (sq j) ∧ f (sq j) = some (scell (SS j))) : hMet l yX8_snapshot cX8_snapshot 1 (some .int) { frames := 2, cells := 0, slots := 0, locals := 45 } D (hTy cy) f sz [.ref x] (hQi (fun r u => r = (X8_snapshotY_r0 nC) ∧ u lg_o = some (.inr (3, [.ref no_o, .ref sa_o, .ref ea_o, .int lo, .int le, .int lfi, .int (nI nS), .int (nI nC), .int 0])) ∧ u sa_o = some (.inl (cy 4, 512, .inr (.inr (.inr (.inr (cpq qs qs_o nS)))))) ∧ u ea_o = some (.inl (cy 0, 512, .inl (X8_snapshotY_g1 ge ge_o))) ∧ hFrL f u [lg_o, sa_o, ea_o]) D f sz) hNo := by
  refine h_enter (by decide) hfl (Nat.le_of_ble_eq_true rfl) ?_
  intro p9 e9 s9 m9 b9 t9 c9 hsz C0 hr hnm G ls hl
  have hx := C0.1.1
  have hb := C0.1.2.1
  have hl : lv_has ls 1 [(0, .ref x)] := hl
  refine lv_aload_n hx hb dX8_snapshot_0 rfl (lv_at hl 0 rfl) ?_
  refine g_cV C0 G (g_runV C0 G (rest := []) (c_X8_demandMatchO hfl (A := A) (b := b) (b2 := b2) (xea := xea) (xra := xra) (xkr := xkr) (lo := lo) (le := le) (lfi := lfi) (nS := nS) (nC := nC) (lun := lun) (qs := qs) (ge := ge) h_x h_lg h_sa h_ea v0) h_x rfl hY_X8_demandMatch mm_X8_194 mi_X8_demandMatch ml_X8_demandMatch ⟨(Nat.le_of_ble_eq_true rfl), (Nat.le_of_ble_eq_true rfl)⟩ rfl hl.1 rfl (Nat.le_of_ble_eq_true rfl) dX8_snapshot_1 ⟨(Nat.le_of_ble_eq_true rfl), (Nat.le_of_ble_eq_true rfl)⟩) (kx_no rfl) (fun u12 H locs hp11 G => ?_)
  have eu12 := hp11
  rw [eu12] at G
  refine lv_aload_n hx hb dX8_snapshot_4 rfl (lv_at hl 0 rfl) ?_
  refine g_get C0 G h_x rfl hiX8 3 (by decide) mf_X8_26 rfl dX8_snapshot_5 ?_
  refine lv_aload_n hx hb dX8_snapshot_8 rfl (lv_at hl 0 rfl) ?_
  refine g_get C0 G h_x rfl hiX8 2 (by decide) mf_X8_22 rfl dX8_snapshot_9 ?_
  refine g_cV C0 G (g_runV C0 G (rest := []) (c_X1_copy hfl (lo := lo_o) (le := le_o) (lfi := lfi_o) (lcm := nI nC_o) (lun := lun_o) (lo_o := lo) (le_o := le) (lfi_o := lfi) (lcm_o := nI nC) (lun_o := lun) (lsc := nI nS_o) (nS := nS) (qs := qs_o) (qs_o := qs) (ge := ge_o) (ge_o := ge) h_lg_o h_sa_o h_ea_o h_lg h_sa h_ea d1 d2 d3 hnS (by omega)) h_lg_o rfl hY_X1_copy mm_X8_329 mi_X1_copy ml_X1_copy ⟨(Nat.le_of_ble_eq_true rfl), (Nat.le_of_ble_eq_true rfl)⟩ rfl hl.1 rfl (Nat.le_of_ble_eq_true rfl) dX8_snapshot_12 ⟨(Nat.le_of_ble_eq_true rfl), (Nat.le_of_ble_eq_true rfl)⟩) (kx_no rfl) (fun u14 H locs hp13 G => ?_)
  obtain ⟨k15, k16, k17, fr18⟩ := hp13
  refine lv_aload_n hx hb dX8_snapshot_15 rfl (lv_at hl 0 rfl) ?_
  have k19 : u14 x = some (.inr (10, [.ref (A (b + 0)), .ref (A (b2 + 0)), .ref lg, .ref lg_o, .ref tx, .ref rz, .ref ro, .int xea, .int xra, .int xkr])) := fr18 _ _ (by simp only [List.mem_cons, List.not_mem_nil, or_false]; intro q; rcases q with q | q | q; exact (hne h_x h_lg_o (by intro q; cases q)) q; exact (hne h_x h_sa_o (by intro q; cases q)) q; exact (hne h_x h_ea_o (by intro q; cases q)) q) h_x
  refine g_get C0 G k19 rfl hiX8 3 (by decide) mf_X8_26 rfl dX8_snapshot_16 ?_
  refine g_get C0 G k15 rfl hiX1 7 (by decide) mf_X8_314 rfl dX8_snapshot_19 ?_
  exact g_iret C0 G hr dX8_snapshot_22 (Nat.le_of_ble_eq_true rfl) (Nat.le_of_ble_eq_true rfl) (by exact ⟨(by rw [X8_snapshotY_r0]), k15, k16, (by rw [(by rw [X8_snapshotY_g1] : (X8_snapshotY_g1 ge ge_o) = (X1_copy_g0 ge_o ge))]; exact k17), (fun a9 e9 h7 h8 => fr18 _ _ (fun q => h7 (by simp only [List.mem_cons, List.not_mem_nil, or_false] at q ⊢; first | exact q | (rcases q with q | q | q <;> simp [q]) | omega)) (h8))⟩)
set_option maxRecDepth 100000 in
theorem c_X8_restoreN {l : Launch} (hfl : l.stackTraces = false) {D : va_G} {cy : Nat → ClassId} {f : Hf} {sz : Nat} {x : Nat} {lg_o : Nat} {sa_o : Nat} {ea_o : Nat} {A : Nat → Nat} {b : Nat} {b2 : Nat} {lg : Nat} {tx : Nat} {rz : Nat} {ro : Nat} {xea : Int32} {xra : Int32} {xkr : Int32} {no_o : Nat} {lo_o : Int32} {le_o : Int32} {lfi_o : Int32} {nS_o : Nat} {nC_o : Nat} {lun_o : Int32} {qs_o : Nat → Option Nat} {ge_o : Nat → Int32} (h_x : f x = some (.inr (10, [.ref (A (b + 0)), .ref (A (b2 + 0)), .ref lg, .ref lg_o, .ref tx, .ref rz, .ref ro, .int xea, .int xra, .int xkr]))) (h_lg_o : f lg_o = some (.inr (3, [.ref no_o, .ref sa_o, .ref ea_o, .int lo_o, .int le_o, .int lfi_o, .int (nI nS_o), .int (nI nC_o), .int lun_o]))) (h_sa_o : f sa_o = some (.inl (cy 4, 512, .inr (.inr (.inr (.inr qs_o)))))) (h_ea_o : f ea_o = some (.inl (cy 0, 512, .inl ge_o))) (v0 : (X1_hasMatch_x0 le_o) = 0) : hMet l yX8_restore cX8_restore 1 (some .int) { frames := 6, cells := 1, slots := 6, locals := 82 } D (hTy cy) f sz [.ref x] (hQi (fun r u => False) D f sz) (fun E u => E = "java/lang/IllegalStateException" ∧ u x = some (.inr (10, [.ref (A (b + 0)), .ref (A (b2 + 0)), .ref lg, .ref lg_o, .ref tx, .ref rz, .ref ro, .int xea, .int xra, .int 7])) ∧ hFrL f u [x]) := by
  refine h_enter (by decide) hfl (Nat.le_of_ble_eq_true rfl) ?_
  intro p9 e9 s9 m9 b9 t9 c9 hsz C0 hr hnm G ls hl
  have hx := C0.1.1
  have hb := C0.1.2.1
  have hl : lv_has ls 1 [(0, .ref x)] := hl
  refine lv_aload_n hx hb dX8_restore_0 rfl (lv_at hl 0 rfl) ?_
  refine g_get C0 G h_x rfl hiX8 3 (by decide) mf_X8_26 rfl dX8_restore_1 ?_
  refine g_cI C0 G (g_runV C0 G (rest := []) (c_X1_hasMatch hfl (lo := lo_o) (le := le_o) (lfi := lfi_o) (lsc := nI nS_o) (lcm := nI nC_o) (lun := lun_o) h_lg_o) h_lg_o rfl hY_X1_hasMatch mm_X8_332 mi_X1_hasMatch ml_X1_hasMatch ⟨(Nat.le_of_ble_eq_true rfl), (Nat.le_of_ble_eq_true rfl)⟩ rfl hl.1 rfl (Nat.le_of_ble_eq_true rfl) dX8_restore_4 ⟨(Nat.le_of_ble_eq_true rfl), (Nat.le_of_ble_eq_true rfl)⟩) (kx_no rfl) (fun r13 u12 H locs hp11 G => ?_)
  obtain ⟨er14, eu12⟩ := hp11
  rw [eu12] at G
  refine lv_topv (v := (X1_hasMatch_x0 le_o)) er14 ?_
  refine lv_if_ne (tgt := 27) hx hb dX8_restore_7 (by decide) (fun c15 => absurd (v0) c15) (fun _ => ?_)
  refine lv_aload_n hx hb dX8_restore_10 rfl (lv_at hl 0 rfl) ?_
  refine lv_bipush (v := 7) hx hb dX8_restore_11 (by decide) ?_
  refine g_put C0 G h_x rfl hiX8 tyX8 tyX8_ok nmX8 9 (by decide) mf_X8_53 rfl rfl rfl rfl (Nat.le_of_ble_eq_true rfl) dX8_restore_13 (fun H locs f16 hf16 G => ?_)
  have k17 : f16 x = some (.inr (10, [.ref (A (b + 0)), .ref (A (b2 + 0)), .ref lg, .ref lg_o, .ref tx, .ref rz, .ref ro, .int xea, .int xra, .int 7])) := hus hf16
  exact g_throwW C0 G (X := "java/lang/IllegalStateException") (by decide) mk_X8_131 mz_java_lang_IllegalStateException (is := 335) (text := "nothing to restore") (by decide) hat_135 hl.1 dX8_restore_16 dX8_restore_19 dX8_restore_20 dX8_restore_23 dX8_restore_26 ⟨(Nat.le_of_ble_eq_true rfl), (Nat.le_of_ble_eq_true rfl)⟩ ⟨(Nat.le_of_ble_eq_true rfl), (Nat.le_of_ble_eq_true rfl)⟩ (Nat.le_of_ble_eq_true rfl) (Nat.le_of_ble_eq_true rfl) (by exact ⟨rfl, k17, (fun a9 e9 h7 h8 => hup hf16 (fun q => h7 (by rw [q]; simp)) (h8))⟩)
def X8_restoreY_r0 (nC_o : Nat) : Int32 := nI nC_o
def X8_restoreY_g1 (ge : Nat → Int32) (ge_o : Nat → Int32) : Nat → Int32 := (X1_copy_g0 ge ge_o)
set_option maxRecDepth 100000 in
theorem c_X8_restoreY {l : Launch} (hfl : l.stackTraces = false) {D : va_G} {cy : Nat → ClassId} {f : Hf} {sz : Nat} {x : Nat} {lg : Nat} {sa : Nat} {ea : Nat} {lg_o : Nat} {sa_o : Nat} {ea_o : Nat} {A : Nat → Nat} {b : Nat} {b2 : Nat} {tx : Nat} {rz : Nat} {ro : Nat} {xea : Int32} {xra : Int32} {xkr : Int32} {no : Nat} {lo : Int32} {le : Int32} {lfi : Int32} {nS : Nat} {nC : Nat} {lun : Int32} {qs : Nat → Option Nat} {ge : Nat → Int32} {no_o : Nat} {lo_o : Int32} {le_o : Int32} {lfi_o : Int32} {nS_o : Nat} {nC_o : Nat} {lun_o : Int32} {qs_o : Nat → Option Nat} {ge_o : Nat → Int32} {q : Nat → Option Nat} {cm : Nat → Int32} {cs : Nat → Nat → Nat → Int32} {sq : Nat → Nat} {SS : Nat → Nat → Int32} (h_x : f x = some (.inr (10, [.ref (A (b + 0)), .ref (A (b2 + 0)), .ref lg, .ref lg_o, .ref tx, .ref rz, .ref ro, .int xea, .int xra, .int xkr]))) (h_lg : f lg = some (.inr (3, [.ref no, .ref sa, .ref ea, .int lo, .int le, .int lfi, .int (nI nS), .int (nI nC), .int lun]))) (h_sa : f sa = some (.inl (cy 4, 512, .inr (.inr (.inr (.inr qs)))))) (h_ea : f ea = some (.inl (cy 0, 512, .inl ge))) (h_lg_o : f lg_o = some (.inr (3, [.ref no_o, .ref sa_o, .ref ea_o, .int lo_o, .int le_o, .int lfi_o, .int (nI nS_o), .int (nI nC_o), .int lun_o]))) (h_sa_o : f sa_o = some (.inl (cy 4, 512, .inr (.inr (.inr (.inr qs_o)))))) (h_ea_o : f ea_o = some (.inl (cy 0, 512, .inl ge_o))) (hAj : ∀ i j : Nat, i ≠ j → A i ≠ A j) (hM : MW A b cy q cm cs f) (hQ : HQ A b q) (n_sa : sa ∉ MA A b) (n_ea : ea ∉ MA A b) (n_sa_o : sa_o ∉ MA A b) (n_ea_o : ea_o ∉ MA A b) (v0 : ¬ (X1_hasMatch_x0 le_o) = 0) (hle : X1_hasMatch_x0 le_o = 1) (d1 : lg ≠ lg_o) (d2 : sa ≠ sa_o) (d3 : ea ≠ ea_o) (hnS : nS_o ≤ 512) (hsq : ∀ j : Nat, j < nS_o → qs_o j = some (sq j) ∧ f (sq j) = some (scell (SS j))) (hpp : ∀ j : Nat, j < nS_o → PP (fl SS (foM cm le_o lfi_o) (foS cs lo_o le_o) j).1 (fl SS (foM cm le_o lfi_o) (foS cs lo_o le_o) j).2) : hMet l yX8_restore cX8_restore 1 (some .int) { frames := 6, cells := 0, slots := 0, locals := 138 } D (hTy cy) f sz [.ref x] (hQi (fun r u => r = (X8_restoreY_r0 nC_o) ∧ u lg = some (.inr (3, [.ref no, .ref sa, .ref ea, .int lo_o, .int le_o, .int lfi_o, .int (nI nS_o), .int (nI nC_o), .int 0])) ∧ u sa = some (.inl (cy 4, 512, .inr (.inr (.inr (.inr (cpq qs_o qs nS_o)))))) ∧ u ea = some (.inl (cy 0, 512, .inl (X8_restoreY_g1 ge ge_o))) ∧ MW A b cy q (fl SS (foM cm le_o lfi_o) (foS cs lo_o le_o) nS_o).1 (fl SS (foM cm le_o lfi_o) (foS cs lo_o le_o) nS_o).2 u ∧ hFrL f u (MA A b ++ [lg, sa, ea])) D f sz) hNo := by
  refine h_enter (by decide) hfl (Nat.le_of_ble_eq_true rfl) ?_
  intro p9 e9 s9 m9 b9 t9 c9 hsz C0 hr hnm G ls hl
  have hx := C0.1.1
  have hb := C0.1.2.1
  have hl : lv_has ls 1 [(0, .ref x)] := hl
  refine lv_aload_n hx hb dX8_restore_0 rfl (lv_at hl 0 rfl) ?_
  refine g_get C0 G h_x rfl hiX8 3 (by decide) mf_X8_26 rfl dX8_restore_1 ?_
  refine g_cI C0 G (g_runV C0 G (rest := []) (c_X1_hasMatch hfl (lo := lo_o) (le := le_o) (lfi := lfi_o) (lsc := nI nS_o) (lcm := nI nC_o) (lun := lun_o) h_lg_o) h_lg_o rfl hY_X1_hasMatch mm_X8_332 mi_X1_hasMatch ml_X1_hasMatch ⟨(Nat.le_of_ble_eq_true rfl), (Nat.le_of_ble_eq_true rfl)⟩ rfl hl.1 rfl (Nat.le_of_ble_eq_true rfl) dX8_restore_4 ⟨(Nat.le_of_ble_eq_true rfl), (Nat.le_of_ble_eq_true rfl)⟩) (kx_no rfl) (fun r13 u12 H locs hp11 G => ?_)
  obtain ⟨er14, eu12⟩ := hp11
  rw [eu12] at G
  refine lv_topv (v := (X1_hasMatch_x0 le_o)) er14 ?_
  refine lv_if_ne (tgt := 27) hx hb dX8_restore_7 (by decide) (fun _ => ?_) (fun c15 => absurd c15 (v0))
  refine lv_aload_n hx hb dX8_restore_27 rfl (lv_at hl 0 rfl) ?_
  refine g_get C0 G h_x rfl hiX8 2 (by decide) mf_X8_22 rfl dX8_restore_28 ?_
  refine lv_aload_n hx hb dX8_restore_31 rfl (lv_at hl 0 rfl) ?_
  refine g_get C0 G h_x rfl hiX8 3 (by decide) mf_X8_26 rfl dX8_restore_32 ?_
  refine g_cV C0 G (g_runV C0 G (rest := []) (c_X1_copy hfl (lo := lo) (le := le) (lfi := lfi) (lcm := nI nC) (lun := lun) (lo_o := lo_o) (le_o := le_o) (lfi_o := lfi_o) (lcm_o := nI nC_o) (lun_o := lun_o) (lsc := nI nS) (nS := nS_o) (qs := qs) (qs_o := qs_o) (ge := ge) (ge_o := ge_o) h_lg h_sa h_ea h_lg_o h_sa_o h_ea_o d1 d2 d3 hnS (by omega)) h_lg rfl hY_X1_copy mm_X8_329 mi_X1_copy ml_X1_copy ⟨(Nat.le_of_ble_eq_true rfl), (Nat.le_of_ble_eq_true rfl)⟩ rfl hl.1 rfl (Nat.le_of_ble_eq_true rfl) dX8_restore_35 ⟨(Nat.le_of_ble_eq_true rfl), (Nat.le_of_ble_eq_true rfl)⟩) (kx_no rfl) (fun u17 H locs hp16 G => ?_)
  obtain ⟨k18, k19, k20, fr21⟩ := hp16
  refine lv_aload_n hx hb dX8_restore_38 rfl (lv_at hl 0 rfl) ?_
  have k22 : u17 x = some (.inr (10, [.ref (A (b + 0)), .ref (A (b2 + 0)), .ref lg, .ref lg_o, .ref tx, .ref rz, .ref ro, .int xea, .int xra, .int xkr])) := fr21 _ _ (by simp only [List.mem_cons, List.not_mem_nil, or_false]; intro q; rcases q with q | q | q; exact (hne h_x h_lg (by intro q; cases q)) q; exact (hne h_x h_sa (by intro q; cases q)) q; exact (hne h_x h_ea (by intro q; cases q)) q) h_x
  refine g_get C0 G k22 rfl hiX8 0 (by decide) mf_X8_10 rfl dX8_restore_39 ?_
  refine lv_aload_n hx hb dX8_restore_42 rfl (lv_at hl 0 rfl) ?_
  refine g_get C0 G k22 rfl hiX8 2 (by decide) mf_X8_22 rfl dX8_restore_43 ?_
  have hq923 := sq_fr (show hFrL f u17 [lg, sa, ea] from fun a9 e9 h7 h8 => fr21 _ _ (fun q => h7 (by simp only [List.mem_cons, List.not_mem_nil, or_false] at q ⊢; first | exact q | (rcases q with q | q | q <;> simp [q]) | omega)) (h8)) (fun y hy Z => by simp only [List.mem_cons, List.not_mem_nil, or_false] at hy; rcases hy with rfl | rfl | rfl <;> (first | (rw [h_lg]) | (rw [h_sa]) | (rw [h_ea])) <;> simp [scell]) hsq
  have hM24 := MW_frN hM fr21 (fun y9 hy9 => by simp only [List.mem_cons, List.not_mem_nil, or_false] at hy9; rcases hy9 with q9 | q9 | q9; (rw [q9]; exact (MW_kind hM h_lg (by decide))); (rw [q9]; exact n_sa); (rw [q9]; exact n_ea))
  have k25 : u17 (A (b + 0)) = some (.inr (4, [.ref (A (b + 1)), .int (cm 0), .int (cm 1), .int (cm 2), .int (cm 3), .int (cm 4)])) := hM24 0 (by omega)
  refine g_cV C0 G (g_runV C0 G (rest := []) (u_X2_follow hfl (nS := nS_o) (sq := sq) (SS := SS) k18 k19 hAj hM24 hQ hle hnS (MW_kind hM h_lg (by decide)) n_sa (sq_cpq hq923) hpp) k25 rfl hY_X2_follow mm_X8_71 mi_X2_follow ml_X2_follow ⟨(Nat.le_of_ble_eq_true rfl), (Nat.le_of_ble_eq_true rfl)⟩ rfl hl.1 rfl (Nat.le_of_ble_eq_true rfl) dX8_restore_46 ⟨(Nat.le_of_ble_eq_true rfl), (Nat.le_of_ble_eq_true rfl)⟩) (kx_no rfl) (fun u27 H locs hp26 G => ?_)
  obtain ⟨hM28, fr29⟩ := hp26
  refine lv_aload_n hx hb dX8_restore_49 rfl (lv_at hl 0 rfl) ?_
  have k30 : u27 x = some (.inr (10, [.ref (A (b + 0)), .ref (A (b2 + 0)), .ref lg, .ref lg_o, .ref tx, .ref rz, .ref ro, .int xea, .int xra, .int xkr])) := fr29 _ _ (MW_kind hM h_x (by decide)) k22
  refine g_get C0 G k30 rfl hiX8 2 (by decide) mf_X8_22 rfl dX8_restore_50 ?_
  have k31 : u27 lg = some (.inr (3, [.ref no, .ref sa, .ref ea, .int lo_o, .int le_o, .int lfi_o, .int (nI nS_o), .int (nI nC_o), .int 0])) := fr29 _ _ (MW_kind hM h_lg (by decide)) k18
  refine g_get C0 G k31 rfl hiX1 7 (by decide) mf_X8_314 rfl dX8_restore_53 ?_
  have k32 : u27 sa = some (.inl (cy 4, 512, .inr (.inr (.inr (.inr (cpq qs_o qs nS_o)))))) := fr29 _ _ n_sa k19
  have k33 : u27 ea = some (.inl (cy 0, 512, .inl (X1_copy_g0 ge ge_o))) := fr29 _ _ n_ea k20
  exact g_iret C0 G hr dX8_restore_56 (Nat.le_of_ble_eq_true rfl) (Nat.le_of_ble_eq_true rfl) (by exact ⟨(by rw [X8_restoreY_r0]), k31, k32, (by rw [(by rw [X8_restoreY_g1] : (X8_restoreY_g1 ge ge_o) = (X1_copy_g0 ge ge_o))]; exact k33), hM28, (fun a9 e9 h7 h8 => fr29 _ _ (fun q => h7 (by simp [q])) (fr21 _ _ (fun q => h7 (by simp only [List.mem_cons, List.not_mem_nil, or_false] at q ⊢; first | exact q | (rcases q with q | q | q <;> simp [q]) | omega)) (h8)))⟩)
