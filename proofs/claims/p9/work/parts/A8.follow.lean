def fl (SS : Nat → Nat → Int32) (m0 : Nat → Int32) (s0 : Nat → Nat → Nat → Int32) : Nat → (Nat → Int32) × (Nat → Nat → Nat → Int32)
  | 0 => (m0, s0)
  | n + 1 => (pfM (fl SS m0 s0 n).1 (fl SS m0 s0 n).2 (SS n), pfS (fl SS m0 s0 n).1 (fl SS m0 s0 n).2 (SS n))
theorem MW_kind {A : Nat → Nat} {b : Nat} {cy : Nat → ClassId} {q : Nat → Option Nat} {cm : Nat → Int32} {cs : Nat → Nat → Nat → Int32} {f : Hf} {x : Nat} {ci : Nat} {fs : List Value} (h : MW A b cy q cm cs f) (hx : f x = some (.inr (ci, fs))) (hc : ci ≠ 2 ∧ ci ≠ 4 ∧ ci ≠ 5 ∧ ci ≠ 8) : x ∉ MA A b := by
  intro hm
  obtain ⟨k, hk, e⟩ := List.mem_map.mp hm
  have hk2 := List.mem_range.mp hk
  have h9 := h k hk2
  rw [e, hx] at h9
  have h8 := Option.some.inj h9
  have hd : k = 0 ∨ k = 1 ∨ k = 2 ∨ k = 3 ∨ k = 4 ∨ k = 5 ∨ k = 6 ∨ k = 7 ∨ k = 8 ∨ k = 9 ∨ k = 10 ∨ k = 11 ∨ k = 12 ∨ k = 13 ∨ k = 14 ∨ k = 15 ∨ k = 16 ∨ k = 17 ∨ k = 18 ∨ k = 19 ∨ k = 20 ∨ k = 21 ∨ k = 22 ∨ k = 23 ∨ k = 24 ∨ k = 25 ∨ k = 26 ∨ k = 27 ∨ k = 28 ∨ k = 29 ∨ k = 30 ∨ k = 31 ∨ k = 32 ∨ k = 33 ∨ k = 34 ∨ k = 35 ∨ k = 36 ∨ k = 37 ∨ k = 38 ∨ k = 39 ∨ k = 40 ∨ k = 41 ∨ k = 42 ∨ k = 43 ∨ k = 44 ∨ k = 45 ∨ k = 46 ∨ k = 47 ∨ k = 48 ∨ k = 49 ∨ k = 50 ∨ k = 51 ∨ k = 52 ∨ k = 53 := by omega
  rcases hd with rfl | rfl | rfl | rfl | rfl | rfl | rfl | rfl | rfl | rfl | rfl | rfl | rfl | rfl | rfl | rfl | rfl | rfl | rfl | rfl | rfl | rfl | rfl | rfl | rfl | rfl | rfl | rfl | rfl | rfl | rfl | rfl | rfl | rfl | rfl | rfl | rfl | rfl | rfl | rfl | rfl | rfl | rfl | rfl | rfl | rfl | rfl | rfl | rfl | rfl | rfl | rfl | rfl | rfl <;> first | (cases h8; omega) | (have h7 := Sum.inr.inj h8; have h6 := congrArg Prod.fst h7; simp only at h6; omega) | cases h8
def foM (cm : Nat → Int32) (le lfi : Int32) : Nat → Int32
  | 0 => 1
  | 1 => 0
  | 2 => le
  | 3 => lfi
  | 4 => 0
  | k => cm k
def foS (cs : Nat → Nat → Nat → Int32) (lo le : Int32) : Nat → Nat → Nat → Int32
  | 0, 0 => (X0_start_g12 (cs 0 0))
  | 0, 1 => (X0_start_g10 (cs 0 1))
  | 0, 2 => (X0_start_g13 (cs 0 2))
  | 0, 3 => (X0_start_g14 (cs 0 3))
  | 0, 4 => (X0_start_g15 (cs 0 4))
  | 0, 5 => cs 0 5
  | 0, 6 => fun k => match k with | 0 => lo | 1 => lo | 2 => 0 | 3 => (-1) | 4 => (-1) | 5 => 0 | 6 => 0 | 7 => 0 | 8 => (X0_start_x11 (cs 0 0) lo (X2_hasResources_x0 le)) | 9 => 0 | 10 => 1 | 11 => (-1) | 12 => 0 | k => cs 0 6 k
  | 0, 7 => fun k => match k with | 0 => 1 | 1 => 11 | 2 => 11 | 3 => 1 | 4 => 0 | k => cs 0 7 k
  | j, c => cs j c
set_option maxRecDepth 100000 in
theorem c_X2_follow {l : Launch} (hfl : l.stackTraces = false) {D : va_G} {cy : Nat → ClassId} {f : Hf} {sz : Nat} {A : Nat → Nat} {b : Nat} {q : Nat → Option Nat} {cm : Nat → Int32} {cs : Nat → Nat → Nat → Int32} {lg : Nat} {no : Nat} {sa : Nat} {ea : Nat} {lo : Int32} {le : Int32} {lfi : Int32} {lcm : Int32} {lun : Int32} {nS : Nat} {qs : Nat → Option Nat} {sq : Nat → Nat} {SS : Nat → Nat → Int32} (h_m0 : f (A (b + 0)) = some (.inr (4, [.ref (A (b + 1)), .int (cm 0), .int (cm 1), .int (cm 2), .int (cm 3), .int (cm 4)]))) (h_m1 : f (A (b + 1)) = some (.inl (cy 3, 4, .inr (.inr (.inr (.inr q)))))) (h_m2 : f (A (b + 2)) = some (.inr (2, [.ref (A (b + 3)), .ref (A (b + 5)), .ref (A (b + 7)), .ref (A (b + 9)), .ref (A (b + 11)), .ref (A (b + 13)), .int (cs 0 6 8), .int (cs 0 6 9), .int (cs 0 6 10), .int (cs 0 6 11), .int (cs 0 6 12)]))) (h_m3 : f (A (b + 3)) = some (.inr (8, [.int 8, .ref (A (b + 4)), .int (cs 0 7 0)]))) (h_m4 : f (A (b + 4)) = some (.inl (cy 0, 8, .inl (cs 0 0)))) (h_m5 : f (A (b + 5)) = some (.inr (8, [.int 6, .ref (A (b + 6)), .int (cs 0 7 1)]))) (h_m6 : f (A (b + 6)) = some (.inl (cy 0, 66, .inl (cs 0 1)))) (h_m7 : f (A (b + 7)) = some (.inr (8, [.int 7, .ref (A (b + 8)), .int (cs 0 7 2)]))) (h_m8 : f (A (b + 8)) = some (.inl (cy 0, 77, .inl (cs 0 2)))) (h_m9 : f (A (b + 9)) = some (.inr (8, [.int 8, .ref (A (b + 10)), .int (cs 0 7 3)]))) (h_m10 : f (A (b + 10)) = some (.inl (cy 0, 4104, .inl (cs 0 3)))) (h_m11 : f (A (b + 11)) = some (.inr (8, [.int 3, .ref (A (b + 12)), .int (cs 0 7 4)]))) (h_m12 : f (A (b + 12)) = some (.inl (cy 0, 33, .inl (cs 0 4)))) (h_m13 : f (A (b + 13)) = some (.inr (5, [.ref (A (b + 14)), .int (cs 0 6 0), .int (cs 0 6 1), .int (cs 0 6 2), .int (cs 0 6 3), .int (cs 0 6 4), .int (cs 0 6 5), .int (cs 0 6 6), .int (cs 0 6 7)]))) (h_m14 : f (A (b + 14)) = some (.inl (cy 0, 20, .inl (cs 0 5)))) (h_lg : f lg = some (.inr (3, [.ref no, .ref sa, .ref ea, .int lo, .int le, .int lfi, .int (nI nS), .int lcm, .int lun]))) (h_sa : f sa = some (.inl (cy 4, 512, .inr (.inr (.inr (.inr qs)))))) (hAj : ∀ i j : Nat, i ≠ j → A i ≠ A j) (hq0 : q 0 = some (A (b + 2))) (hq1 : q 1 = some (A (b + 15))) (hq2 : q 2 = some (A (b + 28))) (hq3 : q 3 = some (A (b + 41))) (hM : MW A b cy q cm cs f) (hQ : HQ A b q) (hle : X1_hasMatch_x0 le = 1) (hnS : nS ≤ 512) (hlg : lg ∉ MA A b) (hsa : sa ∉ MA A b) (hsq : ∀ j, j < nS → qs j = some (sq j) ∧ f (sq j) = some (scell (SS j))) (hpp : ∀ j, j < nS → PP (fl SS (foM cm le lfi) (foS cs lo le) j).1 (fl SS (foM cm le lfi) (foS cs lo le) j).2) : hMet l yX2_follow cX2_follow 3 none { frames := 5, cells := 0, slots := 0, locals := 116 } D (hTy cy) f sz [.ref (A (b + 0)), .ref lg] (hQv (fun u => MW A b cy q (fl SS (foM cm le lfi) (foS cs lo le) nS).1 (fl SS (foM cm le lfi) (foS cs lo le) nS).2 u ∧ hFrL f u (MA A b)) D f sz) hNo := by
  refine h_enter (by decide) hfl (Nat.le_of_ble_eq_true rfl) ?_
  intro p9 e9 s9 m9 b9 t9 c9 hsz C0 hr hnm G ls hl
  have hx := C0.1.1
  have hb := C0.1.2.1
  have hl : lv_has ls 3 [(0, .ref (A (b + 0))), (1, .ref lg)] := hl
  refine lv_aload_n hx hb dX2_follow_0 rfl (lv_at hl 0 rfl) ?_
  refine lv_aload_n hx hb dX2_follow_1 rfl (lv_at hl 1 rfl) ?_
  refine g_cI C0 G (g_runV C0 G (rest := [.ref (A (b + 0))]) (c_X1_hasMatch hfl (lo := lo) (le := le) (lfi := lfi) (lsc := nI nS) (lcm := lcm) (lun := lun) h_lg) h_lg rfl hY_X1_hasMatch mm_X2_35 mi_X1_hasMatch ml_X1_hasMatch ⟨(Nat.le_of_ble_eq_true rfl), (Nat.le_of_ble_eq_true rfl)⟩ rfl hl.1 rfl (Nat.le_of_ble_eq_true rfl) dX2_follow_2 ⟨(Nat.le_of_ble_eq_true rfl), (Nat.le_of_ble_eq_true rfl)⟩) (kx_no rfl) (fun r13 u12 H locs hp11 G => ?_)
  obtain ⟨er14, eu12⟩ := hp11
  rw [eu12] at G
  refine lv_topv (v := (X1_hasMatch_x0 le)) er14 ?_
  refine lv_topv (v := 1) (hle) ?_
  refine g_put C0 G h_m0 rfl hiX2 tyX2 tyX2_ok nmX2 1 (by decide) mf_X2_17 rfl rfl rfl rfl (Nat.le_of_ble_eq_true rfl) dX2_follow_5 (fun H locs f15 hf15 G => ?_)
  have k16 : f15 (A (b + 0)) = some (.inr (4, [.ref (A (b + 1)), .int 1, .int (cm 1), .int (cm 2), .int (cm 3), .int (cm 4)])) := hus hf15
  refine lv_aload_n hx hb dX2_follow_8 rfl (lv_at hl 0 rfl) ?_
  refine g_get C0 G k16 rfl hiX2 1 (by decide) mf_X2_17 rfl dX2_follow_9 ?_
  refine lv_if_ne (tgt := 16) hx hb dX2_follow_12 (by decide) (fun _ => ?_) (fun c17 => absurd c17 (by decide))
  refine lv_aload_n hx hb dX2_follow_16 rfl (lv_at hl 0 rfl) ?_
  refine lv_iconst (v := 0) hx hb dX2_follow_17 (by decide) ?_
  refine g_put C0 G k16 rfl hiX2 tyX2 tyX2_ok nmX2 2 (by decide) mf_X2_21 rfl rfl rfl rfl (Nat.le_of_ble_eq_true rfl) dX2_follow_18 (fun H locs f18 hf18 G => ?_)
  have k19 : f18 (A (b + 0)) = some (.inr (4, [.ref (A (b + 1)), .int 1, .int 0, .int (cm 2), .int (cm 3), .int (cm 4)])) := hus hf18
  refine lv_aload_n hx hb dX2_follow_21 rfl (lv_at hl 0 rfl) ?_
  refine lv_aload_n hx hb dX2_follow_22 rfl (lv_at hl 1 rfl) ?_
  have k20 : f18 lg = some (.inr (3, [.ref no, .ref sa, .ref ea, .int lo, .int le, .int lfi, .int (nI nS), .int lcm, .int lun])) := hup hf18 (by first | exact hneD (hup hf15 (hneD h_lg h_m0 rfl) h_lg) k16 rfl | exact hne (hup hf15 (hneD h_lg h_m0 rfl) h_lg) k16 (by intro q; cases q)) (hup hf15 (hneD h_lg h_m0 rfl) h_lg)
  refine g_get C0 G k20 rfl hiX1 4 (by decide) mf_X2_41 rfl dX2_follow_23 ?_
  refine g_put C0 G k19 rfl hiX2 tyX2 tyX2_ok nmX2 3 (by decide) mf_X2_24 rfl rfl rfl rfl (Nat.le_of_ble_eq_true rfl) dX2_follow_26 (fun H locs f21 hf21 G => ?_)
  have k22 : f21 (A (b + 0)) = some (.inr (4, [.ref (A (b + 1)), .int 1, .int 0, .int le, .int (cm 3), .int (cm 4)])) := hus hf21
  refine lv_aload_n hx hb dX2_follow_29 rfl (lv_at hl 0 rfl) ?_
  refine lv_aload_n hx hb dX2_follow_30 rfl (lv_at hl 1 rfl) ?_
  have k23 : f21 lg = some (.inr (3, [.ref no, .ref sa, .ref ea, .int lo, .int le, .int lfi, .int (nI nS), .int lcm, .int lun])) := hup hf21 (hneD k20 k19 rfl) k20
  refine g_get C0 G k23 rfl hiX1 5 (by decide) mf_X2_42 rfl dX2_follow_31 ?_
  refine g_put C0 G k22 rfl hiX2 tyX2 tyX2_ok nmX2 4 (by decide) mf_X2_28 rfl rfl rfl rfl (Nat.le_of_ble_eq_true rfl) dX2_follow_34 (fun H locs f24 hf24 G => ?_)
  have k25 : f24 (A (b + 0)) = some (.inr (4, [.ref (A (b + 1)), .int 1, .int 0, .int le, .int lfi, .int (cm 4)])) := hus hf24
  refine lv_aload_n hx hb dX2_follow_37 rfl (lv_at hl 0 rfl) ?_
  refine lv_iconst (v := 0) hx hb dX2_follow_38 (by decide) ?_
  refine g_put C0 G k25 rfl hiX2 tyX2 tyX2_ok nmX2 5 (by decide) mf_X2_31 rfl rfl rfl rfl (Nat.le_of_ble_eq_true rfl) dX2_follow_39 (fun H locs f26 hf26 G => ?_)
  have k27 : f26 (A (b + 0)) = some (.inr (4, [.ref (A (b + 1)), .int 1, .int 0, .int le, .int lfi, .int 0])) := hus hf26
  refine lv_aload_n hx hb dX2_follow_42 rfl (lv_at hl 0 rfl) ?_
  have k28 : f26 (A (b + 1)) = some (.inl (cy 3, 4, .inr (.inr (.inr (.inr q))))) := hup hf26 (hAj _ _ (by omega)) (hup hf24 (hAj _ _ (by omega)) (hup hf21 (hAj _ _ (by omega)) (hup hf18 (hAj _ _ (by omega)) (hup hf15 (hAj _ _ (by omega)) h_m1))))
  refine g_cR C0 G (g_runV C0 G (rest := []) (c_X2_present0 hfl (A := A) (b := b) (ex := 1) (ov := 0) (ie := le) (fi := lfi) (q := q) k27 k28 hAj hq0 hq1 hq2 hq3) k27 rfl hY_X2_present mm_X2_43 mi_X2_present ml_X2_present ⟨(Nat.le_of_ble_eq_true rfl), (Nat.le_of_ble_eq_true rfl)⟩ rfl hl.1 rfl (Nat.le_of_ble_eq_true rfl) dX2_follow_43 ⟨(Nat.le_of_ble_eq_true rfl), (Nat.le_of_ble_eq_true rfl)⟩) (kx_no rfl) (fun a31 u30 H locs hp29 G => ?_)
  obtain ⟨zr, eu30⟩ := hp29
  replace zr := Eq.symm zr
  subst zr
  rw [eu30] at G
  refine lv_aload_n hx hb dX2_follow_46 rfl (lv_at hl 1 rfl) ?_
  have k32 : f26 lg = some (.inr (3, [.ref no, .ref sa, .ref ea, .int lo, .int le, .int lfi, .int (nI nS), .int lcm, .int lun])) := hup hf26 (by first | exact hneD (hup hf24 (hneD k23 k22 rfl) k23) k25 rfl | exact hne (hup hf24 (hneD k23 k22 rfl) k23) k25 (by intro q; cases q)) (hup hf24 (hneD k23 k22 rfl) k23)
  refine g_get C0 G k32 rfl hiX1 3 (by decide) mf_X2_47 rfl dX2_follow_47 ?_
  refine lv_aload_n hx hb dX2_follow_50 rfl (lv_at hl 0 rfl) ?_
  refine g_cI C0 G (g_runV C0 G (rest := [.int lo, .ref (A (b + 2))]) (c_X2_hasResources hfl (A := A) (b := b) (ex := 1) (ov := 0) (ie := le) (fi := lfi) (nu := 0) (q := q) k27 k28 hAj hq0 hq1 hq2 hq3) k27 rfl hY_X2_hasResources mm_X2_50 mi_X2_hasResources ml_X2_hasResources ⟨(Nat.le_of_ble_eq_true rfl), (Nat.le_of_ble_eq_true rfl)⟩ rfl hl.1 rfl (Nat.le_of_ble_eq_true rfl) dX2_follow_51 ⟨(Nat.le_of_ble_eq_true rfl), (Nat.le_of_ble_eq_true rfl)⟩) (kx_no rfl) (fun r35 u34 H locs hp33 G => ?_)
  obtain ⟨er36, eu34⟩ := hp33
  rw [eu34] at G
  refine lv_topv (v := (X2_hasResources_x0 le)) er36 ?_
  have k37 : f26 (A (b + 2)) = some (.inr (2, [.ref (A (b + 3)), .ref (A (b + 5)), .ref (A (b + 7)), .ref (A (b + 9)), .ref (A (b + 11)), .ref (A (b + 13)), .int (cs 0 6 8), .int (cs 0 6 9), .int (cs 0 6 10), .int (cs 0 6 11), .int (cs 0 6 12)])) := hup hf26 (hAj _ _ (by omega)) (hup hf24 (hAj _ _ (by omega)) (hup hf21 (hAj _ _ (by omega)) (hup hf18 (hAj _ _ (by omega)) (hup hf15 (hAj _ _ (by omega)) h_m2))))
  have k38 : f26 (A (b + 3)) = some (.inr (8, [.int 8, .ref (A (b + 4)), .int (cs 0 7 0)])) := hup hf26 (hAj _ _ (by omega)) (hup hf24 (hAj _ _ (by omega)) (hup hf21 (hAj _ _ (by omega)) (hup hf18 (hAj _ _ (by omega)) (hup hf15 (hAj _ _ (by omega)) h_m3))))
  have k39 : f26 (A (b + 4)) = some (.inl (cy 0, 8, .inl (cs 0 0))) := hup hf26 (hAj _ _ (by omega)) (hup hf24 (hAj _ _ (by omega)) (hup hf21 (hAj _ _ (by omega)) (hup hf18 (hAj _ _ (by omega)) (hup hf15 (hAj _ _ (by omega)) h_m4))))
  have k40 : f26 (A (b + 5)) = some (.inr (8, [.int 6, .ref (A (b + 6)), .int (cs 0 7 1)])) := hup hf26 (hAj _ _ (by omega)) (hup hf24 (hAj _ _ (by omega)) (hup hf21 (hAj _ _ (by omega)) (hup hf18 (hAj _ _ (by omega)) (hup hf15 (hAj _ _ (by omega)) h_m5))))
  have k41 : f26 (A (b + 6)) = some (.inl (cy 0, 66, .inl (cs 0 1))) := hup hf26 (hAj _ _ (by omega)) (hup hf24 (hAj _ _ (by omega)) (hup hf21 (hAj _ _ (by omega)) (hup hf18 (hAj _ _ (by omega)) (hup hf15 (hAj _ _ (by omega)) h_m6))))
  have k42 : f26 (A (b + 7)) = some (.inr (8, [.int 7, .ref (A (b + 8)), .int (cs 0 7 2)])) := hup hf26 (hAj _ _ (by omega)) (hup hf24 (hAj _ _ (by omega)) (hup hf21 (hAj _ _ (by omega)) (hup hf18 (hAj _ _ (by omega)) (hup hf15 (hAj _ _ (by omega)) h_m7))))
  have k43 : f26 (A (b + 8)) = some (.inl (cy 0, 77, .inl (cs 0 2))) := hup hf26 (hAj _ _ (by omega)) (hup hf24 (hAj _ _ (by omega)) (hup hf21 (hAj _ _ (by omega)) (hup hf18 (hAj _ _ (by omega)) (hup hf15 (hAj _ _ (by omega)) h_m8))))
  have k44 : f26 (A (b + 9)) = some (.inr (8, [.int 8, .ref (A (b + 10)), .int (cs 0 7 3)])) := hup hf26 (hAj _ _ (by omega)) (hup hf24 (hAj _ _ (by omega)) (hup hf21 (hAj _ _ (by omega)) (hup hf18 (hAj _ _ (by omega)) (hup hf15 (hAj _ _ (by omega)) h_m9))))
  have k45 : f26 (A (b + 10)) = some (.inl (cy 0, 4104, .inl (cs 0 3))) := hup hf26 (hAj _ _ (by omega)) (hup hf24 (hAj _ _ (by omega)) (hup hf21 (hAj _ _ (by omega)) (hup hf18 (hAj _ _ (by omega)) (hup hf15 (hAj _ _ (by omega)) h_m10))))
  have k46 : f26 (A (b + 11)) = some (.inr (8, [.int 3, .ref (A (b + 12)), .int (cs 0 7 4)])) := hup hf26 (hAj _ _ (by omega)) (hup hf24 (hAj _ _ (by omega)) (hup hf21 (hAj _ _ (by omega)) (hup hf18 (hAj _ _ (by omega)) (hup hf15 (hAj _ _ (by omega)) h_m11))))
  have k47 : f26 (A (b + 12)) = some (.inl (cy 0, 33, .inl (cs 0 4))) := hup hf26 (hAj _ _ (by omega)) (hup hf24 (hAj _ _ (by omega)) (hup hf21 (hAj _ _ (by omega)) (hup hf18 (hAj _ _ (by omega)) (hup hf15 (hAj _ _ (by omega)) h_m12))))
  have k48 : f26 (A (b + 13)) = some (.inr (5, [.ref (A (b + 14)), .int (cs 0 6 0), .int (cs 0 6 1), .int (cs 0 6 2), .int (cs 0 6 3), .int (cs 0 6 4), .int (cs 0 6 5), .int (cs 0 6 6), .int (cs 0 6 7)])) := hup hf26 (hAj _ _ (by omega)) (hup hf24 (hAj _ _ (by omega)) (hup hf21 (hAj _ _ (by omega)) (hup hf18 (hAj _ _ (by omega)) (hup hf15 (hAj _ _ (by omega)) h_m13))))
  have k49 : f26 (A (b + 14)) = some (.inl (cy 0, 20, .inl (cs 0 5))) := hup hf26 (hAj _ _ (by omega)) (hup hf24 (hAj _ _ (by omega)) (hup hf21 (hAj _ _ (by omega)) (hup hf18 (hAj _ _ (by omega)) (hup hf15 (hAj _ _ (by omega)) h_m14))))
  refine g_cV C0 G (g_runV C0 G (rest := []) (c_X0_start hfl lo (X2_hasResources_x0 le) k37 k38 k39 k40 k41 k42 k43 k44 k45 k46 k47 k48 k49 (hAj _ _ (by omega))) k37 rfl hY_X0_start mm_X2_53 mi_X0_start ml_X0_start ⟨(Nat.le_of_ble_eq_true rfl), (Nat.le_of_ble_eq_true rfl)⟩ rfl hl.1 rfl (Nat.le_of_ble_eq_true rfl) dX2_follow_54 ⟨(Nat.le_of_ble_eq_true rfl), (Nat.le_of_ble_eq_true rfl)⟩) (kx_no rfl) (fun u51 H locs hp50 G => ?_)
  obtain ⟨k52, k53, k54, k55, k56, k57, k58, k59, k60, k61, k62, k63, fr64⟩ := hp50
  refine lv_iconst (v := 0) hx hb dX2_follow_57 (by decide) ?_
  refine lv_istore_n (lv' := [(2, .int 0), (0, .ref (A (b + 0))), (1, .ref lg)]) hx hb dX2_follow_58 rfl hl (by decide) rfl (fun ls hl => ?_)
  have k65 : u51 (A (b + 0)) = some (.inr (4, [.ref (A (b + 1)), .int 1, .int 0, .int le, .int lfi, .int 0])) := fr64 _ _ (nm_c (hAb hAj rfl) (nm_c (hAb hAj rfl) (nm_c (hAb hAj rfl) (nm_c (hAb hAj rfl) (nm_c (hAb hAj rfl) (nm_c (hAb hAj rfl) (nm_c (hAb hAj rfl) (nm_c (hAb hAj rfl) (nm_c (hAb hAj rfl) (nm_c (hAb hAj rfl) (nm_c (hAb hAj rfl) (nm_c (hAb hAj rfl) nm_0)))))))))))) k27
  have k66 : u51 (A (b + 14)) = some (.inl (cy 0, 20, .inl (cs 0 5))) := fr64 _ _ (nm_c (hAb hAj rfl) (nm_c (hAb hAj rfl) (nm_c (hAb hAj rfl) (nm_c (hAb hAj rfl) (nm_c (hAb hAj rfl) (nm_c (hAb hAj rfl) (nm_c (hAb hAj rfl) (nm_c (hAb hAj rfl) (nm_c (hAb hAj rfl) (nm_c (hAb hAj rfl) (nm_c (hAb hAj rfl) (nm_c (hAb hAj rfl) nm_0)))))))))))) k49
  have hM0 : MW A b cy q (foM cm le lfi) (foS cs lo le) u51 := by
    refine MW_new (T := [0, 2, 3, 4, 5, 6, 7, 8, 9, 10, 11, 12, 13, 14]) hAj hM (show hFrL f u51 [(A (b + 0)), (A (b + 2)), (A (b + 3)), (A (b + 4)), (A (b + 5)), (A (b + 6)), (A (b + 7)), (A (b + 8)), (A (b + 9)), (A (b + 10)), (A (b + 11)), (A (b + 12)), (A (b + 13)), (A (b + 14))] from fun a9 e9 h7 h8 => fr64 _ _ (fun q => h7 (by simp only [List.mem_cons, List.not_mem_nil, or_false] at q ⊢; first | exact q | (rcases q with q | q | q | q | q | q | q | q | q | q | q | q <;> simp [q]) | omega)) (hup hf26 (fun q => h7 (by rw [q]; simp)) (hup hf24 (fun q => h7 (by rw [q]; simp)) (hup hf21 (fun q => h7 (by rw [q]; simp)) (hup hf18 (fun q => h7 (by rw [q]; simp)) (hup hf15 (fun q => h7 (by rw [q]; simp)) (h8))))))) (fun k hk => ?_) (fun k hk hT => ?_)
    · simp only [List.mem_cons, List.not_mem_nil, or_false] at hk
      rcases hk with rfl | rfl | rfl | rfl | rfl | rfl | rfl | rfl | rfl | rfl | rfl | rfl | rfl | rfl
      · exact k65
      · exact k63
      · exact k52
      · exact k53
      · exact k54
      · exact k55
      · exact k56
      · exact k57
      · exact k58
      · exact k59
      · exact k60
      · exact k61
      · exact k62
      · exact k66
    · have h9 : k = 1 ∨ k = 15 ∨ k = 16 ∨ k = 17 ∨ k = 18 ∨ k = 19 ∨ k = 20 ∨ k = 21 ∨ k = 22 ∨ k = 23 ∨ k = 24 ∨ k = 25 ∨ k = 26 ∨ k = 27 ∨ k = 28 ∨ k = 29 ∨ k = 30 ∨ k = 31 ∨ k = 32 ∨ k = 33 ∨ k = 34 ∨ k = 35 ∨ k = 36 ∨ k = 37 ∨ k = 38 ∨ k = 39 ∨ k = 40 ∨ k = 41 ∨ k = 42 ∨ k = 43 ∨ k = 44 ∨ k = 45 ∨ k = 46 ∨ k = 47 ∨ k = 48 ∨ k = 49 ∨ k = 50 ∨ k = 51 ∨ k = 52 ∨ k = 53 := by
        simp only [List.mem_cons, List.not_mem_nil, or_false, not_or] at hT
        omega
      rcases h9 with rfl | rfl | rfl | rfl | rfl | rfl | rfl | rfl | rfl | rfl | rfl | rfl | rfl | rfl | rfl | rfl | rfl | rfl | rfl | rfl | rfl | rfl | rfl | rfl | rfl | rfl | rfl | rfl | rfl | rfl | rfl | rfl | rfl | rfl | rfl | rfl | rfl | rfl | rfl | rfl
      all_goals rfl
  have hF0 : hFrL f u51 (MA A b) := hFrL_mono (show hFrL f u51 [(A (b + 0)), (A (b + 2)), (A (b + 3)), (A (b + 4)), (A (b + 5)), (A (b + 6)), (A (b + 7)), (A (b + 8)), (A (b + 9)), (A (b + 10)), (A (b + 11)), (A (b + 12)), (A (b + 13)), (A (b + 14))] from fun a9 e9 h7 h8 => fr64 _ _ (fun q => h7 (by simp only [List.mem_cons, List.not_mem_nil, or_false] at q ⊢; first | exact q | (rcases q with q | q | q | q | q | q | q | q | q | q | q | q <;> simp [q]) | omega)) (hup hf26 (fun q => h7 (by rw [q]; simp)) (hup hf24 (fun q => h7 (by rw [q]; simp)) (hup hf21 (fun q => h7 (by rw [q]; simp)) (hup hf18 (fun q => h7 (by rw [q]; simp)) (hup hf15 (fun q => h7 (by rw [q]; simp)) (h8))))))) (fun x hx => by
    simp only [List.mem_cons, List.not_mem_nil, or_false] at hx
    rcases hx with rfl | rfl | rfl | rfl | rfl | rfl | rfl | rfl | rfl | rfl | rfl | rfl | rfl | rfl
    · exact MA_in (k := 0) (by omega)
    · exact MA_in (k := 2) (by omega)
    · exact MA_in (k := 3) (by omega)
    · exact MA_in (k := 4) (by omega)
    · exact MA_in (k := 5) (by omega)
    · exact MA_in (k := 6) (by omega)
    · exact MA_in (k := 7) (by omega)
    · exact MA_in (k := 8) (by omega)
    · exact MA_in (k := 9) (by omega)
    · exact MA_in (k := 10) (by omega)
    · exact MA_in (k := 11) (by omega)
    · exact MA_in (k := 12) (by omega)
    · exact MA_in (k := 13) (by omega)
    · exact MA_in (k := 14) (by omega))
  have LOOP59 : ∀ (k9 : Nat) (jj : Nat) (f1 : Hf) (H : Heap) (locs : List Loc) (ls : Array Slot), (jj ≤ nS) → (nS - jj < k9) → MW A b cy q (fl SS (foM cm le lfi) (foS cs lo le) jj).1 (fl SS (foM cm le lfi) (foS cs lo le) jj).2 f1 → hFrL f f1 (MA A b) → hG D (hA f sz) f1 s9 H locs → lv_has ls 3 [(2, .int (nI jj)), (0, .ref (A (b + 0))), (1, .ref lg)] → W p9 l e9 ({ frames := 5, cells := 0, slots := 0, locals := 116 } : Room) s9 m9 ([.ref (A (b + 0)), .ref lg] : List Value).toArray b9 t9 c9 H locs 0 0 (vx_MQ b9 (hQv (fun u => MW A b cy q (fl SS (foM cm le lfi) (foS cs lo le) nS).1 (fl SS (foM cm le lfi) (foS cs lo le) nS).2 u ∧ hFrL f u (MA A b)) D f sz) (hPx hNo D f sz) ([.ref (A (b + 0)), .ref lg] : List Value).toArray s9 0 0 (hA f sz)) (F0 m9 59 ls []) := by
    intro k9
    induction k9 with
    | zero =>
      intro jj f1 H locs ls hi2 hk hMj hfr G hl
      exact absurd hk (by omega)
    | succ k9 ih =>
      intro jj f1 H locs ls hi2 hk hMj hfr G hl
      rcases Nat.lt_or_ge jj nS with hlt | hge
      · have hs67 : f (sq jj) = some (.inr (7, [.int (SS jj 0), .int (SS jj 1), .int (SS jj 2), .int (SS jj 3), .int (SS jj 4), .int (SS jj 5), .int (SS jj 6), .int (SS jj 7), .int (SS jj 8)])) := (hsq jj hlt).2
        refine lv_iload_n hx hb dX2_follow_59 rfl (lv_at hl 0 rfl) ?_
        refine lv_aload_n hx hb dX2_follow_60 rfl (lv_at hl 2 rfl) ?_
        have k68 : f1 lg = some (.inr (3, [.ref no, .ref sa, .ref ea, .int lo, .int le, .int lfi, .int (nI nS), .int lcm, .int lun])) := hfr _ _ hlg h_lg
        refine g_get C0 G k68 rfl hiX1 6 (by decide) mf_X2_57 rfl dX2_follow_61 ?_
        refine lv_icmp_ge (tgt := 83) hx hb dX2_follow_64 (by decide) (fun c69 => absurd c69 ((fun q => absurd ((nI_leI (a := nS) (b := jj) (by omega) (by omega)).mp q) (by omega)))) (fun _ => ?_)
        refine lv_aload_n hx hb dX2_follow_67 rfl (lv_at hl 1 rfl) ?_
        refine lv_aload_n hx hb dX2_follow_68 rfl (lv_at hl 2 rfl) ?_
        refine lv_iload_n hx hb dX2_follow_69 rfl (lv_at hl 0 rfl) ?_
        have k70 : f1 sa = some (.inl (cy 4, 512, .inr (.inr (.inr (.inr qs))))) := hfr _ _ hsa h_sa
        refine g_cR C0 G (g_runV C0 G (rest := [.ref (A (b + 0))]) (c_X1_step hfl (lo := lo) (le := le) (lfi := lfi) (lcm := lcm) (lun := lun) (nS := nS) (jj := jj) (qs := qs) k68 k70 hlt hnS (hsq jj hlt).1) k68 rfl hY_X1_step mm_X2_60 mi_X1_step ml_X1_step ⟨(Nat.le_of_ble_eq_true rfl), (Nat.le_of_ble_eq_true rfl)⟩ rfl hl.1 rfl (Nat.le_of_ble_eq_true rfl) dX2_follow_70 ⟨(Nat.le_of_ble_eq_true rfl), (Nat.le_of_ble_eq_true rfl)⟩) (kx_no rfl) (fun a73 u72 H locs hp71 G => ?_)
        obtain ⟨zr, eu72⟩ := hp71
        replace zr := Eq.symm zr
        subst zr
        rw [eu72] at G
        have k74 : f1 (sq jj) = some (.inr (7, [.int (SS jj 0), .int (SS jj 1), .int (SS jj 2), .int (SS jj 3), .int (SS jj 4), .int (SS jj 5), .int (SS jj 6), .int (SS jj 7), .int (SS jj 8)])) := hfr _ _ (MW_kind hM hs67 (by decide)) hs67
        refine g_cI C0 G (g_runV C0 G (rest := []) (u_X2_performU hfl hMj (S := (SS jj)) (show _ = some (scell (SS jj)) from k74) hAj hQ (hpp jj hlt)) (show f1 (A (b + 0)) = some (.inr (4, [.ref (A (b + 1)), .int ((fl SS (foM cm le lfi) (foS cs lo le) jj).1 0), .int ((fl SS (foM cm le lfi) (foS cs lo le) jj).1 1), .int ((fl SS (foM cm le lfi) (foS cs lo le) jj).1 2), .int ((fl SS (foM cm le lfi) (foS cs lo le) jj).1 3), .int ((fl SS (foM cm le lfi) (foS cs lo le) jj).1 4)])) from hMj 0 (by omega)) rfl hY_X2_perform mm_X2_64 mi_X2_perform ml_X2_perform ⟨(Nat.le_of_ble_eq_true rfl), (Nat.le_of_ble_eq_true rfl)⟩ rfl hl.1 rfl (Nat.le_of_ble_eq_true rfl) dX2_follow_73 ⟨(Nat.le_of_ble_eq_true rfl), (Nat.le_of_ble_eq_true rfl)⟩) (kx_no rfl) (fun r77 u76 H locs hp75 G => ?_)
        obtain ⟨er78, hM79, fr80⟩ := hp75
        refine lv_topv (v := (pfR (fl SS (foM cm le lfi) (foS cs lo le) jj).1 (fl SS (foM cm le lfi) (foS cs lo le) jj).2 (SS jj))) er78 ?_
        refine lv_pop hx hb dX2_follow_76 rfl ?_
        refine lv_iinc (v := nI (jj + 1)) (lv' := [(2, .int (nI (jj + 1))), (0, .ref (A (b + 0))), (1, .ref lg)]) hx hb dX2_follow_77 hl (k := 0) rfl (by exact (nI_add _ _)) (by decide) rfl (fun ls hl => ?_)
        refine lv_goto (tgt := 59) hx hb dX2_follow_80 (by decide) ?_
        exact ih (jj + 1) u76 _ _ _ (by omega) (by omega) hM79 (fun a9 e9 h7 h8 => fr80 _ _ (fun q => h7 q) (hfr _ _ (fun q => h7 q) (h8))) G (lv_sub hl [0, 1, 2] rfl)
      · have hi9 : nS = jj := by omega
        subst hi9
        refine lv_iload_n hx hb dX2_follow_59 rfl (lv_at hl 0 rfl) ?_
        refine lv_aload_n hx hb dX2_follow_60 rfl (lv_at hl 2 rfl) ?_
        have k82 : f1 lg = some (.inr (3, [.ref no, .ref sa, .ref ea, .int lo, .int le, .int lfi, .int (nI nS), .int lcm, .int lun])) := hfr _ _ hlg h_lg
        refine g_get C0 G k82 rfl hiX1 6 (by decide) mf_X2_57 rfl dX2_follow_61 ?_
        refine lv_icmp_ge (tgt := 83) hx hb dX2_follow_64 (by decide) (fun _ => ?_) (fun c83 => absurd (((nI_leI (by omega) (by omega)).mpr (Nat.le_refl _))) c83)
        exact g_vret C0 G hr dX2_follow_83 (Nat.le_of_ble_eq_true rfl) (Nat.le_of_ble_eq_true rfl) (by exact ⟨hMj, hfr⟩)
  exact LOOP59 (nS + 1) 0 u51 _ _ _ (by omega) (by omega) hM0 hF0 G (lv_sub hl [0, 1, 2] rfl)
