def hT (u : Hf) (m : Nat) (t : Int32) : Prop := ∃ rest, u m = some (.inr (11, .int t :: rest))
theorem mcn_X9_19 : Cond.constant RX9 19 51528 ∈ lw_tbl := hin6 (List.mem_of_getElem? (i := 10) rfl)
theorem hin01 {p : Int32} (h : 0 ≤ p ∧ p ≤ 1) : vp_in p 2 := by
  obtain ⟨h1, h2⟩ := h
  simp only [Int32.le_iff_toInt_le] at h1 h2
  have e0 : (0 : Int32).toInt = 0 := rfl
  have e1 : (1 : Int32).toInt = 1 := rfl
  rw [e0] at h1
  rw [e1] at h2
  unfold vp_in
  simp only [Int32.lt_iff_toInt_lt, e0]
  simp only [Int32.toNatClampNeg]
  omega
theorem upd0 (k : Nat) : upd (fun _ => (0 : Int32)) k 0 = fun _ => 0 := by funext j; simp [upd]
theorem hBallE {ki ru bo : Int32} (hb : bo = 0 ∨ bo = 1) : ((0 ≤ ki ∧ ki ≤ 4) ∧ ((if ki = 3 ∨ ki = 4 then 1 else 0) ≤ ru ∧ ru ≤ (if ki = 0 ∨ ki = 2 then 6 else 4)) ∧ (bo = 0 ∨ ((ki = 0 ∨ ki = 2) ∧ (ru = 4 ∨ ru = 6)))) ↔ (((ki = 0 ∨ ki = 2) ∧ 0 ≤ ru ∧ ru ≤ 6 ∧ (bo = 0 ∨ ru = 4 ∨ ru = 6)) ∨ (ki = 1 ∧ 0 ≤ ru ∧ ru ≤ 4 ∧ bo = 0) ∨ (3 ≤ ki ∧ ki ≤ 4 ∧ 1 ≤ ru ∧ ru ≤ 4 ∧ bo = 0)) := by
  have i0 : (0 : Int32).toInt = 0 := rfl
  have i1 : (1 : Int32).toInt = 1 := rfl
  have i2 : (2 : Int32).toInt = 2 := rfl
  have i3 : (3 : Int32).toInt = 3 := rfl
  have i4 : (4 : Int32).toInt = 4 := rfl
  have i6 : (6 : Int32).toInt = 6 := rfl
  by_cases k3 : ki = 3 ∨ ki = 4
  · have k0 : ¬ (ki = 0 ∨ ki = 2) := by rcases k3 with rfl | rfl <;> decide
    rw [if_pos k3, if_neg k0]
    simp only [Int32.le_iff_toInt_le, ← Int32.toInt_inj] at *
    omega
  · rw [if_neg k3]
    by_cases k0 : ki = 0 ∨ ki = 2
    · rw [if_pos k0]
      simp only [Int32.le_iff_toInt_le, ← Int32.toInt_inj] at *
      omega
    · rw [if_neg k0]
      simp only [Int32.le_iff_toInt_le, ← Int32.toInt_inj] at *
      omega
set_option maxRecDepth 100000 in
theorem k_X9_init {l : Launch} (hfl : l.stackTraces = false) {D : va_G} {cy : Nat → ClassId} {f : Hf} {sz : Nat} {th : Nat}  (h_t : f th = some (.inr (11, [.int 0, .int 0, .null, .null, .null, .null, .null, .null, .int 0, .int 0, .null, .int 0, .int 0, .int 0, .null, .int 0, .int 0, .int 0, .null, .null, .null, .null]))) : hMet l yX9_init cX9_init 1 none { frames := 1, cells := 12, slots := 119239, locals := 12 } D (hTy cy) f sz [.ref th] (hQv (fun u => ∃ v im kp pa de ide tx pt so mo wh pf, sz ≤ v ∧ v < im ∧ im < kp ∧ kp < pa ∧ pa < de ∧ de < ide ∧ ide < tx ∧ tx < pt ∧ pt < so ∧ so < mo ∧ mo < wh ∧ wh < pf ∧ u v = some (.inl (cy 0, 6441, .inl (fun _ => 0))) ∧ u im = some (.inl (cy 0, 6441, .inl (fun _ => 0))) ∧ u kp = some (.inl (cy 0, 6441, .inl (fun _ => 0))) ∧ u pa = some (.inl (cy 0, 51528, .inl (fun _ => 0))) ∧ u de = some (.inl (cy 0, 24000, .inl (fun _ => 0))) ∧ u ide = some (.inl (cy 0, 24000, .inl (fun _ => 0))) ∧ u tx = some (.inl (cy 0, 60, .inl (fun _ => 0))) ∧ u pt = some (.inl (cy 0, 240, .inl (fun _ => 0))) ∧ u so = some (.inl (cy 0, 2, .inl (fun _ => 0))) ∧ u mo = some (.inl (cy 0, 2, .inl (fun _ => 0))) ∧ u wh = some (.inl (cy 0, 42, .inl (fun _ => 0))) ∧ u pf = some (.inl (cy 2, 42, .inr (.inr (.inl (fun _ => 0))))) ∧ u th = some (.inr (11, [.int 0, .int 0, .ref v, .ref im, .ref kp, .ref pa, .ref de, .ref ide, .int 0, .int 0, .ref tx, .int 0, .int (-1), .int (-1), .ref pt, .int 0, .int 0, .int 0, .ref so, .ref mo, .ref wh, .ref pf])) ∧ hFr f u th) D f sz) hNo := by
  refine h_enter (by decide) hfl (Nat.le_of_ble_eq_true rfl) ?_
  intro p9 e9 s9 m9 b9 t9 c9 hsz C0 hr hnm G ls hl
  have hx := C0.1.1
  have hb := C0.1.2.1
  have Gz := G
  have hin : t9.name = "<init>" := hnm
  have hl : lv_has ls 1 [(0, .ref th)] := hl
  refine lv_aload_n hx hb dX9_init_0 rfl (lv_at hl 0 rfl) ?_
  refine W.objInit hx hb C0.1.2.2.2.1 (C0.2.2.2.1.1 _ mm_X9_3 rfl _) (C0.2.2.2.1.1 _ mi_java_lang_Object__init____V rfl _) (C0.2.2.2.1.1 _ mc_objinit rfl _) rfl (by rw [C0.1.2.2.1]; exact hl.1) rfl dX9_init_1 (Nat.le_of_ble_eq_true rfl) (Nat.le_of_ble_eq_true rfl) ?_
  refine W.eq (g2 := F0 m9 4 ls []) rfl ?_
  refine lv_aload_n hx hb dX9_init_4 rfl (lv_at hl 0 rfl) ?_
  refine lv_sipush (v := 6441) hx hb dX9_init_5 (by decide) ?_
  have zq3 := G.2.1
  have z5 : th < _ := (G.1 _ _ h_t).1.lt
  refine g_newa (atype := .int) (ty := .int) C0 G ma_int rfl 0 rfl (n := 6441) (N' := 6441) (a0 := (6441, .inl (fun _ => 0))) (fun cA => rfl) (by decide) rfl (Nat.le_of_ble_eq_true rfl) (Nat.le_of_ble_eq_true rfl) (Nat.le_of_ble_eq_true rfl) dX9_init_8 (fun q3 H f4 nq3 hf4 G hzq3 => ?_)
  have k6 : f4 q3 = some (.inl (cy 0, 6441, .inl (fun _ => 0))) := hus hf4
  have k7 : f4 th = some (.inr (11, [.int 0, .int 0, .null, .null, .null, .null, .null, .null, .int 0, .int 0, .null, .int 0, .int 0, .int 0, .null, .int 0, .int 0, .int 0, .null, .null, .null, .null])) := hup hf4 (by omega) h_t
  refine g_putF C0 G hin k7 rfl hiX9 tyX9 tyX9_ok nmX9 2 (by decide) mf_X9_9 rfl rfl rfl rfl rfl (Nat.le_of_ble_eq_true rfl) dX9_init_10 (fun H locs f8 hf8 G => ?_)
  have k9 : f8 th = some (.inr (11, [.int 0, .int 0, .ref q3, .null, .null, .null, .null, .null, .int 0, .int 0, .null, .int 0, .int 0, .int 0, .null, .int 0, .int 0, .int 0, .null, .null, .null, .null])) := hus hf8
  refine lv_aload_n hx hb dX9_init_13 rfl (lv_at hl 0 rfl) ?_
  refine lv_sipush (v := 6441) hx hb dX9_init_14 (by decide) ?_
  have zq12 := G.2.1
  have k14 : f8 q3 = some (.inl (cy 0, 6441, .inl (fun _ => 0))) := hup hf8 (by omega) k6
  have z15 : q3 < _ := (G.1 _ _ k14).1.lt
  refine g_newa (atype := .int) (ty := .int) C0 G ma_int rfl 0 rfl (n := 6441) (N' := 6441) (a0 := (6441, .inl (fun _ => 0))) (fun cA => rfl) (by decide) rfl (Nat.le_of_ble_eq_true rfl) (Nat.le_of_ble_eq_true rfl) (Nat.le_of_ble_eq_true rfl) dX9_init_17 (fun q12 H f13 nq12 hf13 G hzq12 => ?_)
  have k16 : f13 q12 = some (.inl (cy 0, 6441, .inl (fun _ => 0))) := hus hf13
  have k17 : f13 th = some (.inr (11, [.int 0, .int 0, .ref q3, .null, .null, .null, .null, .null, .int 0, .int 0, .null, .int 0, .int 0, .int 0, .null, .int 0, .int 0, .int 0, .null, .null, .null, .null])) := hup hf13 (by omega) k9
  refine g_putF C0 G hin k17 rfl hiX9 tyX9 tyX9_ok nmX9 3 (by decide) mf_X9_13 rfl rfl rfl rfl rfl (Nat.le_of_ble_eq_true rfl) dX9_init_19 (fun H locs f18 hf18 G => ?_)
  have k19 : f18 th = some (.inr (11, [.int 0, .int 0, .ref q3, .ref q12, .null, .null, .null, .null, .int 0, .int 0, .null, .int 0, .int 0, .int 0, .null, .int 0, .int 0, .int 0, .null, .null, .null, .null])) := hus hf18
  refine lv_aload_n hx hb dX9_init_22 rfl (lv_at hl 0 rfl) ?_
  refine lv_sipush (v := 6441) hx hb dX9_init_23 (by decide) ?_
  have zq22 := G.2.1
  have k24 : f18 q12 = some (.inl (cy 0, 6441, .inl (fun _ => 0))) := hup hf18 (by omega) k16
  have z25 : q12 < _ := (G.1 _ _ k24).1.lt
  refine g_newa (atype := .int) (ty := .int) C0 G ma_int rfl 0 rfl (n := 6441) (N' := 6441) (a0 := (6441, .inl (fun _ => 0))) (fun cA => rfl) (by decide) rfl (Nat.le_of_ble_eq_true rfl) (Nat.le_of_ble_eq_true rfl) (Nat.le_of_ble_eq_true rfl) dX9_init_26 (fun q22 H f23 nq22 hf23 G hzq22 => ?_)
  have k26 : f23 q22 = some (.inl (cy 0, 6441, .inl (fun _ => 0))) := hus hf23
  have k27 : f23 th = some (.inr (11, [.int 0, .int 0, .ref q3, .ref q12, .null, .null, .null, .null, .int 0, .int 0, .null, .int 0, .int 0, .int 0, .null, .int 0, .int 0, .int 0, .null, .null, .null, .null])) := hup hf23 (by omega) k19
  refine g_putF C0 G hin k27 rfl hiX9 tyX9 tyX9_ok nmX9 4 (by decide) mf_X9_16 rfl rfl rfl rfl rfl (Nat.le_of_ble_eq_true rfl) dX9_init_28 (fun H locs f28 hf28 G => ?_)
  have k29 : f28 th = some (.inr (11, [.int 0, .int 0, .ref q3, .ref q12, .ref q22, .null, .null, .null, .int 0, .int 0, .null, .int 0, .int 0, .int 0, .null, .int 0, .int 0, .int 0, .null, .null, .null, .null])) := hus hf28
  refine lv_aload_n hx hb dX9_init_31 rfl (lv_at hl 0 rfl) ?_
  refine lv_ldc (v := 51528) hx hb C0.1.2.2.2.1 (C0.2.2.2.1.1 _ mcn_X9_19 rfl _) dX9_init_32 ?_
  have zq32 := G.2.1
  have k34 : f28 q22 = some (.inl (cy 0, 6441, .inl (fun _ => 0))) := hup hf28 (by omega) k26
  have z35 : q22 < _ := (G.1 _ _ k34).1.lt
  refine g_newa (atype := .int) (ty := .int) C0 G ma_int rfl 0 rfl (n := 51528) (N' := 51528) (a0 := (51528, .inl (fun _ => 0))) (fun cA => rfl) (by decide) rfl (Nat.le_of_ble_eq_true rfl) (Nat.le_of_ble_eq_true rfl) (Nat.le_of_ble_eq_true rfl) dX9_init_34 (fun q32 H f33 nq32 hf33 G hzq32 => ?_)
  have k36 : f33 q32 = some (.inl (cy 0, 51528, .inl (fun _ => 0))) := hus hf33
  have k37 : f33 th = some (.inr (11, [.int 0, .int 0, .ref q3, .ref q12, .ref q22, .null, .null, .null, .int 0, .int 0, .null, .int 0, .int 0, .int 0, .null, .int 0, .int 0, .int 0, .null, .null, .null, .null])) := hup hf33 (by omega) k29
  refine g_putF C0 G hin k37 rfl hiX9 tyX9 tyX9_ok nmX9 5 (by decide) mf_X9_20 rfl rfl rfl rfl rfl (Nat.le_of_ble_eq_true rfl) dX9_init_36 (fun H locs f38 hf38 G => ?_)
  have k39 : f38 th = some (.inr (11, [.int 0, .int 0, .ref q3, .ref q12, .ref q22, .ref q32, .null, .null, .int 0, .int 0, .null, .int 0, .int 0, .int 0, .null, .int 0, .int 0, .int 0, .null, .null, .null, .null])) := hus hf38
  refine lv_aload_n hx hb dX9_init_39 rfl (lv_at hl 0 rfl) ?_
  refine lv_sipush (v := 24000) hx hb dX9_init_40 (by decide) ?_
  have zq42 := G.2.1
  have k44 : f38 q32 = some (.inl (cy 0, 51528, .inl (fun _ => 0))) := hup hf38 (by omega) k36
  have z45 : q32 < _ := (G.1 _ _ k44).1.lt
  refine g_newa (atype := .int) (ty := .int) C0 G ma_int rfl 0 rfl (n := 24000) (N' := 24000) (a0 := (24000, .inl (fun _ => 0))) (fun cA => rfl) (by decide) rfl (Nat.le_of_ble_eq_true rfl) (Nat.le_of_ble_eq_true rfl) (Nat.le_of_ble_eq_true rfl) dX9_init_43 (fun q42 H f43 nq42 hf43 G hzq42 => ?_)
  have k46 : f43 q42 = some (.inl (cy 0, 24000, .inl (fun _ => 0))) := hus hf43
  have k47 : f43 th = some (.inr (11, [.int 0, .int 0, .ref q3, .ref q12, .ref q22, .ref q32, .null, .null, .int 0, .int 0, .null, .int 0, .int 0, .int 0, .null, .int 0, .int 0, .int 0, .null, .null, .null, .null])) := hup hf43 (by omega) k39
  refine g_putF C0 G hin k47 rfl hiX9 tyX9 tyX9_ok nmX9 6 (by decide) mf_X9_23 rfl rfl rfl rfl rfl (Nat.le_of_ble_eq_true rfl) dX9_init_45 (fun H locs f48 hf48 G => ?_)
  have k49 : f48 th = some (.inr (11, [.int 0, .int 0, .ref q3, .ref q12, .ref q22, .ref q32, .ref q42, .null, .int 0, .int 0, .null, .int 0, .int 0, .int 0, .null, .int 0, .int 0, .int 0, .null, .null, .null, .null])) := hus hf48
  refine lv_aload_n hx hb dX9_init_48 rfl (lv_at hl 0 rfl) ?_
  refine lv_sipush (v := 24000) hx hb dX9_init_49 (by decide) ?_
  have zq52 := G.2.1
  have k54 : f48 q42 = some (.inl (cy 0, 24000, .inl (fun _ => 0))) := hup hf48 (by omega) k46
  have z55 : q42 < _ := (G.1 _ _ k54).1.lt
  refine g_newa (atype := .int) (ty := .int) C0 G ma_int rfl 0 rfl (n := 24000) (N' := 24000) (a0 := (24000, .inl (fun _ => 0))) (fun cA => rfl) (by decide) rfl (Nat.le_of_ble_eq_true rfl) (Nat.le_of_ble_eq_true rfl) (Nat.le_of_ble_eq_true rfl) dX9_init_52 (fun q52 H f53 nq52 hf53 G hzq52 => ?_)
  have k56 : f53 q52 = some (.inl (cy 0, 24000, .inl (fun _ => 0))) := hus hf53
  have k57 : f53 th = some (.inr (11, [.int 0, .int 0, .ref q3, .ref q12, .ref q22, .ref q32, .ref q42, .null, .int 0, .int 0, .null, .int 0, .int 0, .int 0, .null, .int 0, .int 0, .int 0, .null, .null, .null, .null])) := hup hf53 (by omega) k49
  refine g_putF C0 G hin k57 rfl hiX9 tyX9 tyX9_ok nmX9 7 (by decide) mf_X9_26 rfl rfl rfl rfl rfl (Nat.le_of_ble_eq_true rfl) dX9_init_54 (fun H locs f58 hf58 G => ?_)
  have k59 : f58 th = some (.inr (11, [.int 0, .int 0, .ref q3, .ref q12, .ref q22, .ref q32, .ref q42, .ref q52, .int 0, .int 0, .null, .int 0, .int 0, .int 0, .null, .int 0, .int 0, .int 0, .null, .null, .null, .null])) := hus hf58
  refine lv_aload_n hx hb dX9_init_57 rfl (lv_at hl 0 rfl) ?_
  refine lv_bipush (v := 60) hx hb dX9_init_58 (by decide) ?_
  have zq62 := G.2.1
  have k64 : f58 q52 = some (.inl (cy 0, 24000, .inl (fun _ => 0))) := hup hf58 (by omega) k56
  have z65 : q52 < _ := (G.1 _ _ k64).1.lt
  refine g_newa (atype := .int) (ty := .int) C0 G ma_int rfl 0 rfl (n := 60) (N' := 60) (a0 := (60, .inl (fun _ => 0))) (fun cA => rfl) (by decide) rfl (Nat.le_of_ble_eq_true rfl) (Nat.le_of_ble_eq_true rfl) (Nat.le_of_ble_eq_true rfl) dX9_init_60 (fun q62 H f63 nq62 hf63 G hzq62 => ?_)
  have k66 : f63 q62 = some (.inl (cy 0, 60, .inl (fun _ => 0))) := hus hf63
  have k67 : f63 th = some (.inr (11, [.int 0, .int 0, .ref q3, .ref q12, .ref q22, .ref q32, .ref q42, .ref q52, .int 0, .int 0, .null, .int 0, .int 0, .int 0, .null, .int 0, .int 0, .int 0, .null, .null, .null, .null])) := hup hf63 (by omega) k59
  refine g_putF C0 G hin k67 rfl hiX9 tyX9 tyX9_ok nmX9 10 (by decide) mf_X9_29 rfl rfl rfl rfl rfl (Nat.le_of_ble_eq_true rfl) dX9_init_62 (fun H locs f68 hf68 G => ?_)
  have k69 : f68 th = some (.inr (11, [.int 0, .int 0, .ref q3, .ref q12, .ref q22, .ref q32, .ref q42, .ref q52, .int 0, .int 0, .ref q62, .int 0, .int 0, .int 0, .null, .int 0, .int 0, .int 0, .null, .null, .null, .null])) := hus hf68
  refine lv_aload_n hx hb dX9_init_65 rfl (lv_at hl 0 rfl) ?_
  refine lv_iconst (v := (-1)) hx hb dX9_init_66 (by decide) ?_
  refine g_put C0 G k69 rfl hiX9 tyX9 tyX9_ok nmX9 12 (by decide) mf_X9_32 rfl rfl rfl rfl (Nat.le_of_ble_eq_true rfl) dX9_init_67 (fun H locs f70 hf70 G => ?_)
  have k71 : f70 th = some (.inr (11, [.int 0, .int 0, .ref q3, .ref q12, .ref q22, .ref q32, .ref q42, .ref q52, .int 0, .int 0, .ref q62, .int 0, .int (-1), .int 0, .null, .int 0, .int 0, .int 0, .null, .null, .null, .null])) := hus hf70
  refine lv_aload_n hx hb dX9_init_70 rfl (lv_at hl 0 rfl) ?_
  refine lv_iconst (v := (-1)) hx hb dX9_init_71 (by decide) ?_
  refine g_put C0 G k71 rfl hiX9 tyX9 tyX9_ok nmX9 13 (by decide) mf_X9_36 rfl rfl rfl rfl (Nat.le_of_ble_eq_true rfl) dX9_init_72 (fun H locs f72 hf72 G => ?_)
  have k73 : f72 th = some (.inr (11, [.int 0, .int 0, .ref q3, .ref q12, .ref q22, .ref q32, .ref q42, .ref q52, .int 0, .int 0, .ref q62, .int 0, .int (-1), .int (-1), .null, .int 0, .int 0, .int 0, .null, .null, .null, .null])) := hus hf72
  refine lv_aload_n hx hb dX9_init_75 rfl (lv_at hl 0 rfl) ?_
  refine lv_sipush (v := 240) hx hb dX9_init_76 (by decide) ?_
  have zq76 := G.2.1
  have k78 : f72 q62 = some (.inl (cy 0, 60, .inl (fun _ => 0))) := hup hf72 (by omega) (hup hf70 (by omega) (hup hf68 (by omega) k66))
  have z79 : q62 < _ := (G.1 _ _ k78).1.lt
  refine g_newa (atype := .int) (ty := .int) C0 G ma_int rfl 0 rfl (n := 240) (N' := 240) (a0 := (240, .inl (fun _ => 0))) (fun cA => rfl) (by decide) rfl (Nat.le_of_ble_eq_true rfl) (Nat.le_of_ble_eq_true rfl) (Nat.le_of_ble_eq_true rfl) dX9_init_79 (fun q76 H f77 nq76 hf77 G hzq76 => ?_)
  have k80 : f77 q76 = some (.inl (cy 0, 240, .inl (fun _ => 0))) := hus hf77
  have k81 : f77 th = some (.inr (11, [.int 0, .int 0, .ref q3, .ref q12, .ref q22, .ref q32, .ref q42, .ref q52, .int 0, .int 0, .ref q62, .int 0, .int (-1), .int (-1), .null, .int 0, .int 0, .int 0, .null, .null, .null, .null])) := hup hf77 (by omega) k73
  refine g_putF C0 G hin k81 rfl hiX9 tyX9 tyX9_ok nmX9 14 (by decide) mf_X9_39 rfl rfl rfl rfl rfl (Nat.le_of_ble_eq_true rfl) dX9_init_81 (fun H locs f82 hf82 G => ?_)
  have k83 : f82 th = some (.inr (11, [.int 0, .int 0, .ref q3, .ref q12, .ref q22, .ref q32, .ref q42, .ref q52, .int 0, .int 0, .ref q62, .int 0, .int (-1), .int (-1), .ref q76, .int 0, .int 0, .int 0, .null, .null, .null, .null])) := hus hf82
  refine lv_aload_n hx hb dX9_init_84 rfl (lv_at hl 0 rfl) ?_
  refine lv_iconst (v := 2) hx hb dX9_init_85 (by decide) ?_
  have zq86 := G.2.1
  have k88 : f82 q76 = some (.inl (cy 0, 240, .inl (fun _ => 0))) := hup hf82 (by omega) k80
  have z89 : q76 < _ := (G.1 _ _ k88).1.lt
  refine g_newa (atype := .int) (ty := .int) C0 G ma_int rfl 0 rfl (n := 2) (N' := 2) (a0 := (2, .inl (fun _ => 0))) (fun cA => rfl) (by decide) rfl (Nat.le_of_ble_eq_true rfl) (Nat.le_of_ble_eq_true rfl) (Nat.le_of_ble_eq_true rfl) dX9_init_86 (fun q86 H f87 nq86 hf87 G hzq86 => ?_)
  have k90 : f87 q86 = some (.inl (cy 0, 2, .inl (fun _ => 0))) := hus hf87
  have k91 : f87 th = some (.inr (11, [.int 0, .int 0, .ref q3, .ref q12, .ref q22, .ref q32, .ref q42, .ref q52, .int 0, .int 0, .ref q62, .int 0, .int (-1), .int (-1), .ref q76, .int 0, .int 0, .int 0, .null, .null, .null, .null])) := hup hf87 (by omega) k83
  refine g_putF C0 G hin k91 rfl hiX9 tyX9 tyX9_ok nmX9 18 (by decide) mf_X9_42 rfl rfl rfl rfl rfl (Nat.le_of_ble_eq_true rfl) dX9_init_88 (fun H locs f92 hf92 G => ?_)
  have k93 : f92 th = some (.inr (11, [.int 0, .int 0, .ref q3, .ref q12, .ref q22, .ref q32, .ref q42, .ref q52, .int 0, .int 0, .ref q62, .int 0, .int (-1), .int (-1), .ref q76, .int 0, .int 0, .int 0, .ref q86, .null, .null, .null])) := hus hf92
  refine lv_aload_n hx hb dX9_init_91 rfl (lv_at hl 0 rfl) ?_
  refine lv_iconst (v := 2) hx hb dX9_init_92 (by decide) ?_
  have zq96 := G.2.1
  have k98 : f92 q86 = some (.inl (cy 0, 2, .inl (fun _ => 0))) := hup hf92 (by omega) k90
  have z99 : q86 < _ := (G.1 _ _ k98).1.lt
  refine g_newa (atype := .int) (ty := .int) C0 G ma_int rfl 0 rfl (n := 2) (N' := 2) (a0 := (2, .inl (fun _ => 0))) (fun cA => rfl) (by decide) rfl (Nat.le_of_ble_eq_true rfl) (Nat.le_of_ble_eq_true rfl) (Nat.le_of_ble_eq_true rfl) dX9_init_93 (fun q96 H f97 nq96 hf97 G hzq96 => ?_)
  have k100 : f97 q96 = some (.inl (cy 0, 2, .inl (fun _ => 0))) := hus hf97
  have k101 : f97 th = some (.inr (11, [.int 0, .int 0, .ref q3, .ref q12, .ref q22, .ref q32, .ref q42, .ref q52, .int 0, .int 0, .ref q62, .int 0, .int (-1), .int (-1), .ref q76, .int 0, .int 0, .int 0, .ref q86, .null, .null, .null])) := hup hf97 (by omega) k93
  refine g_putF C0 G hin k101 rfl hiX9 tyX9 tyX9_ok nmX9 19 (by decide) mf_X9_45 rfl rfl rfl rfl rfl (Nat.le_of_ble_eq_true rfl) dX9_init_95 (fun H locs f102 hf102 G => ?_)
  have k103 : f102 th = some (.inr (11, [.int 0, .int 0, .ref q3, .ref q12, .ref q22, .ref q32, .ref q42, .ref q52, .int 0, .int 0, .ref q62, .int 0, .int (-1), .int (-1), .ref q76, .int 0, .int 0, .int 0, .ref q86, .ref q96, .null, .null])) := hus hf102
  refine lv_aload_n hx hb dX9_init_98 rfl (lv_at hl 0 rfl) ?_
  refine lv_bipush (v := 42) hx hb dX9_init_99 (by decide) ?_
  have zq106 := G.2.1
  have k108 : f102 q96 = some (.inl (cy 0, 2, .inl (fun _ => 0))) := hup hf102 (by omega) k100
  have z109 : q96 < _ := (G.1 _ _ k108).1.lt
  refine g_newa (atype := .int) (ty := .int) C0 G ma_int rfl 0 rfl (n := 42) (N' := 42) (a0 := (42, .inl (fun _ => 0))) (fun cA => rfl) (by decide) rfl (Nat.le_of_ble_eq_true rfl) (Nat.le_of_ble_eq_true rfl) (Nat.le_of_ble_eq_true rfl) dX9_init_101 (fun q106 H f107 nq106 hf107 G hzq106 => ?_)
  have k110 : f107 q106 = some (.inl (cy 0, 42, .inl (fun _ => 0))) := hus hf107
  have k111 : f107 th = some (.inr (11, [.int 0, .int 0, .ref q3, .ref q12, .ref q22, .ref q32, .ref q42, .ref q52, .int 0, .int 0, .ref q62, .int 0, .int (-1), .int (-1), .ref q76, .int 0, .int 0, .int 0, .ref q86, .ref q96, .null, .null])) := hup hf107 (by omega) k103
  refine g_putF C0 G hin k111 rfl hiX9 tyX9 tyX9_ok nmX9 20 (by decide) mf_X9_48 rfl rfl rfl rfl rfl (Nat.le_of_ble_eq_true rfl) dX9_init_103 (fun H locs f112 hf112 G => ?_)
  have k113 : f112 th = some (.inr (11, [.int 0, .int 0, .ref q3, .ref q12, .ref q22, .ref q32, .ref q42, .ref q52, .int 0, .int 0, .ref q62, .int 0, .int (-1), .int (-1), .ref q76, .int 0, .int 0, .int 0, .ref q86, .ref q96, .ref q106, .null])) := hus hf112
  refine lv_aload_n hx hb dX9_init_106 rfl (lv_at hl 0 rfl) ?_
  refine lv_bipush (v := 42) hx hb dX9_init_107 (by decide) ?_
  have zq116 := G.2.1
  have k118 : f112 q106 = some (.inl (cy 0, 42, .inl (fun _ => 0))) := hup hf112 (by omega) k110
  have z119 : q106 < _ := (G.1 _ _ k118).1.lt
  refine g_newa (atype := .float) (ty := .float) C0 G ma_float rfl 2 rfl (n := 42) (N' := 42) (a0 := (42, .inr (.inr (.inl (fun _ => 0))))) (fun cA => rfl) (by decide) rfl (Nat.le_of_ble_eq_true rfl) (Nat.le_of_ble_eq_true rfl) (Nat.le_of_ble_eq_true rfl) dX9_init_109 (fun q116 H f117 nq116 hf117 G hzq116 => ?_)
  have k120 : f117 q116 = some (.inl (cy 2, 42, .inr (.inr (.inl (fun _ => 0))))) := hus hf117
  have k121 : f117 th = some (.inr (11, [.int 0, .int 0, .ref q3, .ref q12, .ref q22, .ref q32, .ref q42, .ref q52, .int 0, .int 0, .ref q62, .int 0, .int (-1), .int (-1), .ref q76, .int 0, .int 0, .int 0, .ref q86, .ref q96, .ref q106, .null])) := hup hf117 (by omega) k113
  refine g_putF C0 G hin k121 rfl hiX9 tyX9 tyX9_ok nmX9 21 (by decide) mf_X9_51 rfl rfl rfl rfl rfl (Nat.le_of_ble_eq_true rfl) dX9_init_111 (fun H locs f122 hf122 G => ?_)
  have k123 : f122 th = some (.inr (11, [.int 0, .int 0, .ref q3, .ref q12, .ref q22, .ref q32, .ref q42, .ref q52, .int 0, .int 0, .ref q62, .int 0, .int (-1), .int (-1), .ref q76, .int 0, .int 0, .int 0, .ref q86, .ref q96, .ref q106, .ref q116])) := hus hf122
  have k124 : f122 q3 = some (.inl (cy 0, 6441, .inl (fun _ => 0))) := hup hf122 (by omega) (hup hf117 (by omega) (hup hf112 (by omega) (hup hf107 (by omega) (hup hf102 (by omega) (hup hf97 (by omega) (hup hf92 (by omega) (hup hf87 (by omega) (hup hf82 (by omega) (hup hf77 (by omega) (hup hf72 (by omega) (hup hf70 (by omega) (hup hf68 (by omega) (hup hf63 (by omega) (hup hf58 (by omega) (hup hf53 (by omega) (hup hf48 (by omega) (hup hf43 (by omega) (hup hf38 (by omega) (hup hf33 (by omega) (hup hf28 (by omega) (hup hf23 (by omega) (hup hf18 (by omega) (hup hf13 (by omega) k14)))))))))))))))))))))))
  have k125 : f122 q12 = some (.inl (cy 0, 6441, .inl (fun _ => 0))) := hup hf122 (by omega) (hup hf117 (by omega) (hup hf112 (by omega) (hup hf107 (by omega) (hup hf102 (by omega) (hup hf97 (by omega) (hup hf92 (by omega) (hup hf87 (by omega) (hup hf82 (by omega) (hup hf77 (by omega) (hup hf72 (by omega) (hup hf70 (by omega) (hup hf68 (by omega) (hup hf63 (by omega) (hup hf58 (by omega) (hup hf53 (by omega) (hup hf48 (by omega) (hup hf43 (by omega) (hup hf38 (by omega) (hup hf33 (by omega) (hup hf28 (by omega) (hup hf23 (by omega) k24)))))))))))))))))))))
  have k126 : f122 q22 = some (.inl (cy 0, 6441, .inl (fun _ => 0))) := hup hf122 (by omega) (hup hf117 (by omega) (hup hf112 (by omega) (hup hf107 (by omega) (hup hf102 (by omega) (hup hf97 (by omega) (hup hf92 (by omega) (hup hf87 (by omega) (hup hf82 (by omega) (hup hf77 (by omega) (hup hf72 (by omega) (hup hf70 (by omega) (hup hf68 (by omega) (hup hf63 (by omega) (hup hf58 (by omega) (hup hf53 (by omega) (hup hf48 (by omega) (hup hf43 (by omega) (hup hf38 (by omega) (hup hf33 (by omega) k34)))))))))))))))))))
  have k127 : f122 q32 = some (.inl (cy 0, 51528, .inl (fun _ => 0))) := hup hf122 (by omega) (hup hf117 (by omega) (hup hf112 (by omega) (hup hf107 (by omega) (hup hf102 (by omega) (hup hf97 (by omega) (hup hf92 (by omega) (hup hf87 (by omega) (hup hf82 (by omega) (hup hf77 (by omega) (hup hf72 (by omega) (hup hf70 (by omega) (hup hf68 (by omega) (hup hf63 (by omega) (hup hf58 (by omega) (hup hf53 (by omega) (hup hf48 (by omega) (hup hf43 (by omega) k44)))))))))))))))))
  have k128 : f122 q42 = some (.inl (cy 0, 24000, .inl (fun _ => 0))) := hup hf122 (by omega) (hup hf117 (by omega) (hup hf112 (by omega) (hup hf107 (by omega) (hup hf102 (by omega) (hup hf97 (by omega) (hup hf92 (by omega) (hup hf87 (by omega) (hup hf82 (by omega) (hup hf77 (by omega) (hup hf72 (by omega) (hup hf70 (by omega) (hup hf68 (by omega) (hup hf63 (by omega) (hup hf58 (by omega) (hup hf53 (by omega) k54)))))))))))))))
  have k129 : f122 q52 = some (.inl (cy 0, 24000, .inl (fun _ => 0))) := hup hf122 (by omega) (hup hf117 (by omega) (hup hf112 (by omega) (hup hf107 (by omega) (hup hf102 (by omega) (hup hf97 (by omega) (hup hf92 (by omega) (hup hf87 (by omega) (hup hf82 (by omega) (hup hf77 (by omega) (hup hf72 (by omega) (hup hf70 (by omega) (hup hf68 (by omega) (hup hf63 (by omega) k64)))))))))))))
  have k130 : f122 q62 = some (.inl (cy 0, 60, .inl (fun _ => 0))) := hup hf122 (by omega) (hup hf117 (by omega) (hup hf112 (by omega) (hup hf107 (by omega) (hup hf102 (by omega) (hup hf97 (by omega) (hup hf92 (by omega) (hup hf87 (by omega) (hup hf82 (by omega) (hup hf77 (by omega) k78)))))))))
  have k131 : f122 q76 = some (.inl (cy 0, 240, .inl (fun _ => 0))) := hup hf122 (by omega) (hup hf117 (by omega) (hup hf112 (by omega) (hup hf107 (by omega) (hup hf102 (by omega) (hup hf97 (by omega) (hup hf92 (by omega) (hup hf87 (by omega) k88)))))))
  have k132 : f122 q86 = some (.inl (cy 0, 2, .inl (fun _ => 0))) := hup hf122 (by omega) (hup hf117 (by omega) (hup hf112 (by omega) (hup hf107 (by omega) (hup hf102 (by omega) (hup hf97 (by omega) k98)))))
  have k133 : f122 q96 = some (.inl (cy 0, 2, .inl (fun _ => 0))) := hup hf122 (by omega) (hup hf117 (by omega) (hup hf112 (by omega) (hup hf107 (by omega) k108)))
  have k134 : f122 q106 = some (.inl (cy 0, 42, .inl (fun _ => 0))) := hup hf122 (by omega) (hup hf117 (by omega) k118)
  have k135 : f122 q116 = some (.inl (cy 2, 42, .inr (.inr (.inl (fun _ => 0))))) := hup hf122 (by omega) k120
  exact g_vret C0 G hr dX9_init_114 (Nat.le_of_ble_eq_true rfl) (Nat.le_of_ble_eq_true rfl) (by exact ⟨q3, q12, q22, q32, q42, q52, q62, q76, q86, q96, q106, q116, (by omega), (by omega), (by omega), (by omega), (by omega), (by omega), (by omega), (by omega), (by omega), (by omega), (by omega), (by omega), k124, k125, k126, k127, k128, k129, k130, k131, k132, k133, k134, k135, k123, (fun a9 e9 h7 h8 => by have h6 := (Gz.1 _ _ h8).1.lt; rw [hsz] at h6; exact hup hf122 h7 (hup hf117 (Nat.ne_of_lt (Nat.lt_of_lt_of_le h6 (by omega))) (hup hf112 h7 (hup hf107 (Nat.ne_of_lt (Nat.lt_of_lt_of_le h6 (by omega))) (hup hf102 h7 (hup hf97 (Nat.ne_of_lt (Nat.lt_of_lt_of_le h6 (by omega))) (hup hf92 h7 (hup hf87 (Nat.ne_of_lt (Nat.lt_of_lt_of_le h6 (by omega))) (hup hf82 h7 (hup hf77 (Nat.ne_of_lt (Nat.lt_of_lt_of_le h6 (by omega))) (hup hf72 h7 (hup hf70 h7 (hup hf68 h7 (hup hf63 (Nat.ne_of_lt (Nat.lt_of_lt_of_le h6 (by omega))) (hup hf58 h7 (hup hf53 (Nat.ne_of_lt (Nat.lt_of_lt_of_le h6 (by omega))) (hup hf48 h7 (hup hf43 (Nat.ne_of_lt (Nat.lt_of_lt_of_le h6 (by omega))) (hup hf38 h7 (hup hf33 (Nat.ne_of_lt (Nat.lt_of_lt_of_le h6 (by omega))) (hup hf28 h7 (hup hf23 (Nat.ne_of_lt (Nat.lt_of_lt_of_le h6 (by omega))) (hup hf18 h7 (hup hf13 (Nat.ne_of_lt (Nat.lt_of_lt_of_le h6 (by omega))) (hup hf8 h7 (hup hf4 (Nat.ne_of_lt (Nat.lt_of_lt_of_le h6 (by omega))) (h8)))))))))))))))))))))))))))⟩)
set_option maxRecDepth 100000 in
theorem k_X9_isIn {l : Launch} (hfl : l.stackTraces = false) {D : va_G} {cy : Nat → ClassId} {f : Hf} {sz : Nat} (x low high : Int32)  : hMet l yX9_isIn cX9_isIn 3 (some .boolean) { frames := 0, cells := 0, slots := 0, locals := 0 } D (hTy cy) f sz [.int x, .int low, .int high] (hQi (fun r u => ((r = 1 ∧ low ≤ x ∧ x ≤ high) ∨ (r = 0 ∧ ¬ (low ≤ x ∧ x ≤ high))) ∧ u = f) D f sz) hNo := by
  refine h_enter (by decide) hfl (Nat.le_of_ble_eq_true rfl) ?_
  intro p9 e9 s9 m9 b9 t9 c9 hsz C0 hr hnm G ls hl
  have hx := C0.1.1
  have hb := C0.1.2.1
  have hl : lv_has ls 3 [(0, .int x), (1, .int low), (2, .int high)] := hl
  refine lv_iload_n hx hb dX9_isIn_0 rfl (lv_at hl 0 rfl) ?_
  refine lv_iload_n hx hb dX9_isIn_1 rfl (lv_at hl 1 rfl) ?_
  refine lv_icmp_lt (tgt := 14) hx hb dX9_isIn_2 (by decide) (fun c1 => ?_) (fun c1 => ?_)
  · refine lv_iconst (v := 0) hx hb dX9_isIn_14 (by decide) ?_
    exact g_zret C0 G hr dX9_isIn_15 rfl (Nat.le_of_ble_eq_true rfl) (Nat.le_of_ble_eq_true rfl) (by refine ⟨?_, rfl⟩; first | (simp_all; done) | (refine Or.inl ⟨rfl, ?_⟩; first | (simp only [Int32.lt_iff_toInt_lt, Int32.le_iff_toInt_le, ← Int32.toInt_inj] at *; first | omega | (simp at *; omega)) | (simp_all; done)) | (refine Or.inr ⟨rfl, ?_⟩; first | (simp only [Int32.lt_iff_toInt_lt, Int32.le_iff_toInt_le, ← Int32.toInt_inj] at *; first | omega | (simp at *; omega)) | (simp_all; done)))
  · refine lv_iload_n hx hb dX9_isIn_5 rfl (lv_at hl 0 rfl) ?_
    refine lv_iload_n hx hb dX9_isIn_6 rfl (lv_at hl 2 rfl) ?_
    refine lv_icmp_gt (tgt := 14) hx hb dX9_isIn_7 (by decide) (fun c2 => ?_) (fun c2 => ?_)
    · refine lv_iconst (v := 0) hx hb dX9_isIn_14 (by decide) ?_
      exact g_zret C0 G hr dX9_isIn_15 rfl (Nat.le_of_ble_eq_true rfl) (Nat.le_of_ble_eq_true rfl) (by refine ⟨?_, rfl⟩; first | (simp_all; done) | (refine Or.inl ⟨rfl, ?_⟩; first | (simp only [Int32.lt_iff_toInt_lt, Int32.le_iff_toInt_le, ← Int32.toInt_inj] at *; first | omega | (simp at *; omega)) | (simp_all; done)) | (refine Or.inr ⟨rfl, ?_⟩; first | (simp only [Int32.lt_iff_toInt_lt, Int32.le_iff_toInt_le, ← Int32.toInt_inj] at *; first | omega | (simp at *; omega)) | (simp_all; done)))
    · refine lv_iconst (v := 1) hx hb dX9_isIn_10 (by decide) ?_
      refine lv_goto (tgt := 15) hx hb dX9_isIn_11 (by decide) ?_
      exact g_zret C0 G hr dX9_isIn_15 rfl (Nat.le_of_ble_eq_true rfl) (Nat.le_of_ble_eq_true rfl) (by refine ⟨?_, rfl⟩; first | (simp_all; done) | (refine Or.inl ⟨rfl, ?_⟩; first | (simp only [Int32.lt_iff_toInt_lt, Int32.le_iff_toInt_le, ← Int32.toInt_inj] at *; first | omega | (simp at *; omega)) | (simp_all; done)) | (refine Or.inr ⟨rfl, ?_⟩; first | (simp only [Int32.lt_iff_toInt_lt, Int32.le_iff_toInt_le, ← Int32.toInt_inj] at *; first | omega | (simp at *; omega)) | (simp_all; done)))
set_option maxRecDepth 100000 in
theorem k_X9_at {l : Launch} (hfl : l.stackTraces = false) {D : va_G} {cy : Nat → ClassId} {f : Hf} {sz : Nat} (i what : Int32)  : hMet l yX9_at cX9_at 2 (some .int) { frames := 0, cells := 0, slots := 0, locals := 0 } D (hTy cy) f sz [.int i, .int what] (hQi (fun r u => r = 25 + 11 * i + what ∧ u = f) D f sz) hNo := by
  refine h_enter (by decide) hfl (Nat.le_of_ble_eq_true rfl) ?_
  intro p9 e9 s9 m9 b9 t9 c9 hsz C0 hr hnm G ls hl
  have hx := C0.1.1
  have hb := C0.1.2.1
  have hl : lv_has ls 2 [(0, .int i), (1, .int what)] := hl
  refine lv_bipush (v := 25) hx hb dX9_at_0 (by decide) ?_
  refine lv_bipush (v := 11) hx hb dX9_at_2 (by decide) ?_
  refine lv_iload_n hx hb dX9_at_4 rfl (lv_at hl 0 rfl) ?_
  refine lv_imul hx hb dX9_at_5 ?_
  refine lv_iadd hx hb dX9_at_6 ?_
  refine lv_iload_n hx hb dX9_at_7 rfl (lv_at hl 1 rfl) ?_
  refine lv_iadd hx hb dX9_at_8 ?_
  exact g_iret C0 G hr dX9_at_9 (Nat.le_of_ble_eq_true rfl) (Nat.le_of_ble_eq_true rfl) (by first | exact ⟨rfl, rfl⟩ | (refine ⟨?_, rfl⟩; simp_all; done))
set_option maxRecDepth 100000 in
theorem k_X9_batterAt {l : Launch} (hfl : l.stackTraces = false) {D : va_G} {cy : Nat → ClassId} {f : Hf} {sz : Nat} (i player what : Int32)  : hMet l yX9_batterAt cX9_batterAt 3 (some .int) { frames := 0, cells := 0, slots := 0, locals := 0 } D (hTy cy) f sz [.int i, .int player, .int what] (hQi (fun r u => r = 69 + 6 * (11 * i + player) + what ∧ u = f) D f sz) hNo := by
  refine h_enter (by decide) hfl (Nat.le_of_ble_eq_true rfl) ?_
  intro p9 e9 s9 m9 b9 t9 c9 hsz C0 hr hnm G ls hl
  have hx := C0.1.1
  have hb := C0.1.2.1
  have hl : lv_has ls 3 [(0, .int i), (1, .int player), (2, .int what)] := hl
  refine lv_bipush (v := 69) hx hb dX9_batterAt_0 (by decide) ?_
  refine lv_bipush (v := 6) hx hb dX9_batterAt_2 (by decide) ?_
  refine lv_bipush (v := 11) hx hb dX9_batterAt_4 (by decide) ?_
  refine lv_iload_n hx hb dX9_batterAt_6 rfl (lv_at hl 0 rfl) ?_
  refine lv_imul hx hb dX9_batterAt_7 ?_
  refine lv_iload_n hx hb dX9_batterAt_8 rfl (lv_at hl 1 rfl) ?_
  refine lv_iadd hx hb dX9_batterAt_9 ?_
  refine lv_imul hx hb dX9_batterAt_10 ?_
  refine lv_iadd hx hb dX9_batterAt_11 ?_
  refine lv_iload_n hx hb dX9_batterAt_12 rfl (lv_at hl 2 rfl) ?_
  refine lv_iadd hx hb dX9_batterAt_13 ?_
  exact g_iret C0 G hr dX9_batterAt_14 (Nat.le_of_ble_eq_true rfl) (Nat.le_of_ble_eq_true rfl) (by first | exact ⟨rfl, rfl⟩ | (refine ⟨?_, rfl⟩; simp_all; done))
set_option maxRecDepth 100000 in
theorem k_X9_bowlerAt {l : Launch} (hfl : l.stackTraces = false) {D : va_G} {cy : Nat → ClassId} {f : Hf} {sz : Nat} (i player what : Int32)  : hMet l yX9_bowlerAt cX9_bowlerAt 3 (some .int) { frames := 0, cells := 0, slots := 0, locals := 0 } D (hTy cy) f sz [.int i, .int player, .int what] (hQi (fun r u => r = 333 + 7 * (11 * i + player) + what ∧ u = f) D f sz) hNo := by
  refine h_enter (by decide) hfl (Nat.le_of_ble_eq_true rfl) ?_
  intro p9 e9 s9 m9 b9 t9 c9 hsz C0 hr hnm G ls hl
  have hx := C0.1.1
  have hb := C0.1.2.1
  have hl : lv_has ls 3 [(0, .int i), (1, .int player), (2, .int what)] := hl
  refine lv_sipush (v := 333) hx hb dX9_bowlerAt_0 (by decide) ?_
  refine lv_bipush (v := 7) hx hb dX9_bowlerAt_3 (by decide) ?_
  refine lv_bipush (v := 11) hx hb dX9_bowlerAt_5 (by decide) ?_
  refine lv_iload_n hx hb dX9_bowlerAt_7 rfl (lv_at hl 0 rfl) ?_
  refine lv_imul hx hb dX9_bowlerAt_8 ?_
  refine lv_iload_n hx hb dX9_bowlerAt_9 rfl (lv_at hl 1 rfl) ?_
  refine lv_iadd hx hb dX9_bowlerAt_10 ?_
  refine lv_imul hx hb dX9_bowlerAt_11 ?_
  refine lv_iadd hx hb dX9_bowlerAt_12 ?_
  refine lv_iload_n hx hb dX9_bowlerAt_13 rfl (lv_at hl 2 rfl) ?_
  refine lv_iadd hx hb dX9_bowlerAt_14 ?_
  exact g_iret C0 G hr dX9_bowlerAt_15 (Nat.le_of_ble_eq_true rfl) (Nat.le_of_ble_eq_true rfl) (by first | exact ⟨rfl, rfl⟩ | (refine ⟨?_, rfl⟩; simp_all; done))
set_option maxRecDepth 100000 in
theorem k_X9_worth {l : Launch} (hfl : l.stackTraces = false) {D : va_G} {cy : Nat → ClassId} {f : Hf} {sz : Nat} (balls wickets : Int32)  : hMet l yX9_worth cX9_worth 2 (some .int) { frames := 0, cells := 0, slots := 0, locals := 0 } D (hTy cy) f sz [.int balls, .int wickets] (hQi (fun r u => r = (10 - wickets) * (240 * balls - balls * balls) ∧ u = f) D f sz) hNo := by
  refine h_enter (by decide) hfl (Nat.le_of_ble_eq_true rfl) ?_
  intro p9 e9 s9 m9 b9 t9 c9 hsz C0 hr hnm G ls hl
  have hx := C0.1.1
  have hb := C0.1.2.1
  have hl : lv_has ls 2 [(0, .int balls), (1, .int wickets)] := hl
  refine lv_bipush (v := 10) hx hb dX9_worth_0 (by decide) ?_
  refine lv_iload_n hx hb dX9_worth_2 rfl (lv_at hl 1 rfl) ?_
  refine lv_isub hx hb dX9_worth_3 ?_
  refine lv_sipush (v := 240) hx hb dX9_worth_4 (by decide) ?_
  refine lv_iload_n hx hb dX9_worth_7 rfl (lv_at hl 0 rfl) ?_
  refine lv_imul hx hb dX9_worth_8 ?_
  refine lv_iload_n hx hb dX9_worth_9 rfl (lv_at hl 0 rfl) ?_
  refine lv_iload_n hx hb dX9_worth_10 rfl (lv_at hl 0 rfl) ?_
  refine lv_imul hx hb dX9_worth_11 ?_
  refine lv_isub hx hb dX9_worth_12 ?_
  refine lv_imul hx hb dX9_worth_13 ?_
  exact g_iret C0 G hr dX9_worth_14 (Nat.le_of_ble_eq_true rfl) (Nat.le_of_ble_eq_true rfl) (by first | exact ⟨rfl, rfl⟩ | (refine ⟨?_, rfl⟩; simp_all; done))
set_option maxRecDepth 100000 in
theorem k_X9_fifth {l : Launch} (hfl : l.stackTraces = false) {D : va_G} {cy : Nat → ClassId} {f : Hf} {sz : Nat} (overs : Int32)  : hMet l yX9_fifth cX9_fifth 1 (some .int) { frames := 0, cells := 0, slots := 0, locals := 0 } D (hTy cy) f sz [.int overs] (hQi (fun r u => r = (overs + 4) / 5 ∧ u = f) D f sz) hNo := by
  refine h_enter (by decide) hfl (Nat.le_of_ble_eq_true rfl) ?_
  intro p9 e9 s9 m9 b9 t9 c9 hsz C0 hr hnm G ls hl
  have hx := C0.1.1
  have hb := C0.1.2.1
  have hl : lv_has ls 1 [(0, .int overs)] := hl
  refine lv_iload_n hx hb dX9_fifth_0 rfl (lv_at hl 0 rfl) ?_
  refine lv_iconst (v := 4) hx hb dX9_fifth_1 (by decide) ?_
  refine lv_iadd hx hb dX9_fifth_2 ?_
  refine lv_iconst (v := 5) hx hb dX9_fifth_3 (by decide) ?_
  refine lv_idiv hx hb dX9_fifth_4 (by decide) ?_
  exact g_iret C0 G hr dX9_fifth_5 (Nat.le_of_ble_eq_true rfl) (Nat.le_of_ble_eq_true rfl) (by first | exact ⟨rfl, rfl⟩ | (refine ⟨?_, rfl⟩; simp_all; done))
set_option maxRecDepth 100000 in
theorem k_X9_thrown {l : Launch} (hfl : l.stackTraces = false) {D : va_G} {cy : Nat → ClassId} {f : Hf} {sz : Nat} {m : Nat} {c_th : Int32} {rest : List Value} (h_m : f m = some (.inr (11, .int c_th :: rest))) : hMet l yX9_thrown cX9_thrown 1 (some .int) { frames := 0, cells := 0, slots := 0, locals := 0 } D (hTy cy) f sz [.ref m] (hQi (fun r u => r = c_th ∧ u = f) D f sz) hNo := by
  refine h_enter (by decide) hfl (Nat.le_of_ble_eq_true rfl) ?_
  intro p9 e9 s9 m9 b9 t9 c9 hsz C0 hr hnm G ls hl
  have hx := C0.1.1
  have hb := C0.1.2.1
  have hl : lv_has ls 1 [(0, .ref m)] := hl
  refine lv_aload_n hx hb dX9_thrown_0 rfl (lv_at hl 0 rfl) ?_
  refine g_get C0 G h_m rfl hiX9 0 (by decide) mf_X9_55 rfl dX9_thrown_1 ?_
  exact g_iret C0 G hr dX9_thrown_4 (Nat.le_of_ble_eq_true rfl) (Nat.le_of_ble_eq_true rfl) (by exact ⟨rfl, rfl⟩)
set_option maxRecDepth 100000 in
theorem k_X9_no {l : Launch} (hfl : l.stackTraces = false) {D : va_G} {cy : Nat → ClassId} {f : Hf} {sz : Nat} {m v im kp pa de ide tx pt so mo wh pf : Nat} {c_th c_re c_un c_hi c_tn c_fa c_rf c_ps c_pl c_to : Int32} (code : Int32) (h_m : f m = some (.inr (11, [.int c_th, .int c_re, .ref v, .ref im, .ref kp, .ref pa, .ref de, .ref ide, .int c_un, .int c_hi, .ref tx, .int c_tn, .int c_fa, .int c_rf, .ref pt, .int c_ps, .int c_pl, .int c_to, .ref so, .ref mo, .ref wh, .ref pf]))) : hMet l yX9_no cX9_no 2 (some .int) { frames := 0, cells := 0, slots := 0, locals := 0 } D (hTy cy) f sz [.ref m, .int code] (hQi (fun r u => r = 0 ∧ u = va_up f m (some (.inr (11, [.int code, .int c_re, .ref v, .ref im, .ref kp, .ref pa, .ref de, .ref ide, .int c_un, .int c_hi, .ref tx, .int c_tn, .int c_fa, .int c_rf, .ref pt, .int c_ps, .int c_pl, .int c_to, .ref so, .ref mo, .ref wh, .ref pf])))) D f sz) hNo := by
  refine h_enter (by decide) hfl (Nat.le_of_ble_eq_true rfl) ?_
  intro p9 e9 s9 m9 b9 t9 c9 hsz C0 hr hnm G ls hl
  have hx := C0.1.1
  have hb := C0.1.2.1
  have hl : lv_has ls 2 [(0, .ref m), (1, .int code)] := hl
  refine lv_aload_n hx hb dX9_no_0 rfl (lv_at hl 0 rfl) ?_
  refine lv_iload_n hx hb dX9_no_1 rfl (lv_at hl 1 rfl) ?_
  refine g_put C0 G h_m rfl hiX9 tyX9 tyX9_ok nmX9 0 (by decide) mf_X9_55 rfl rfl rfl rfl (Nat.le_of_ble_eq_true rfl) dX9_no_2 (fun H locs f1 hf1 G => ?_)
  have k2 : f1 m = some (.inr (11, [.int code, .int c_re, .ref v, .ref im, .ref kp, .ref pa, .ref de, .ref ide, .int c_un, .int c_hi, .ref tx, .int c_tn, .int c_fa, .int c_rf, .ref pt, .int c_ps, .int c_pl, .int c_to, .ref so, .ref mo, .ref wh, .ref pf])) := hus hf1
  refine lv_iconst (v := 0) hx hb dX9_no_5 (by decide) ?_
  exact g_iret C0 G hr dX9_no_6 (Nat.le_of_ble_eq_true rfl) (Nat.le_of_ble_eq_true rfl) (by exact ⟨rfl, hf1⟩)
set_option maxRecDepth 100000 in
theorem k_X9_noMatch {l : Launch} (hfl : l.stackTraces = false) {D : va_G} {cy : Nat → ClassId} {f : Hf} {sz : Nat} {m v im kp pa de ide tx pt so mo wh pf : Nat} {c_th c_re c_un c_hi c_tn c_fa c_rf c_ps c_pl c_to : Int32} (h_m : f m = some (.inr (11, [.int c_th, .int c_re, .ref v, .ref im, .ref kp, .ref pa, .ref de, .ref ide, .int c_un, .int c_hi, .ref tx, .int c_tn, .int c_fa, .int c_rf, .ref pt, .int c_ps, .int c_pl, .int c_to, .ref so, .ref mo, .ref wh, .ref pf]))) (h_v : f v = some (.inl (cy 0, 6441, .inl (fun _ => 0)))) : hMet l yX9_noMatch cX9_noMatch 1 (some .int) { frames := 0, cells := 0, slots := 0, locals := 0 } D (hTy cy) f sz [.ref m] (hQi (fun r u => r = 1 ∧ u = f) D f sz) hNo := by
  refine h_enter (by decide) hfl (Nat.le_of_ble_eq_true rfl) ?_
  intro p9 e9 s9 m9 b9 t9 c9 hsz C0 hr hnm G ls hl
  have hx := C0.1.1
  have hb := C0.1.2.1
  have hl : lv_has ls 1 [(0, .ref m)] := hl
  refine lv_aload_n hx hb dX9_noMatch_0 rfl (lv_at hl 0 rfl) ?_
  refine g_get C0 G h_m rfl hiX9 2 (by decide) mf_X9_9 rfl dX9_noMatch_1 ?_
  refine lv_iconst (v := 0) hx hb dX9_noMatch_4 (by decide) ?_
  refine g_iald C0 G h_v 0 rfl (by unfold vp_in; decide) dX9_noMatch_5 ?_
  refine lv_topv (v := 0) (rfl) ?_
  refine lv_if_eq (tgt := 19) hx hb dX9_noMatch_6 (by decide) (fun _ => ?_) (fun c1 => absurd (by decide) c1)
  refine lv_iconst (v := 1) hx hb dX9_noMatch_19 (by decide) ?_
  refine lv_goto (tgt := 24) hx hb dX9_noMatch_20 (by decide) ?_
  exact g_iret C0 G hr dX9_noMatch_24 (Nat.le_of_ble_eq_true rfl) (Nat.le_of_ble_eq_true rfl) (by exact ⟨rfl, rfl⟩)
set_option maxRecDepth 100000 in
theorem k_X9_refusesBowl {l : Launch} (hfl : l.stackTraces = false) {D : va_G} {cy : Nat → ClassId} {f : Hf} {sz : Nat} {m v im kp pa de ide tx pt so mo wh pf : Nat} {c_th c_re c_un c_hi c_tn c_fa c_rf c_ps c_pl c_to : Int32} (p : Int32) (h_m : f m = some (.inr (11, [.int c_th, .int c_re, .ref v, .ref im, .ref kp, .ref pa, .ref de, .ref ide, .int c_un, .int c_hi, .ref tx, .int c_tn, .int c_fa, .int c_rf, .ref pt, .int c_ps, .int c_pl, .int c_to, .ref so, .ref mo, .ref wh, .ref pf]))) (h_v : f v = some (.inl (cy 0, 6441, .inl (fun _ => 0)))) : hMet l yX9_refusesBowl cX9_refusesBowl 3 (some .int) { frames := 1, cells := 0, slots := 0, locals := 20 } D (hTy cy) f sz [.ref m, .int p] (hQi (fun r u => r = 1 ∧ u = f) D f sz) hNo := by
  refine h_enter (by decide) hfl (Nat.le_of_ble_eq_true rfl) ?_
  intro p9 e9 s9 m9 b9 t9 c9 hsz C0 hr hnm G ls hl
  have hx := C0.1.1
  have hb := C0.1.2.1
  have hl : lv_has ls 3 [(0, .ref m), (1, .int p)] := hl
  refine lv_aload_n hx hb dX9_refusesBowl_0 rfl (lv_at hl 0 rfl) ?_
  refine g_cI C0 G (g_runV C0 G (rest := []) (k_X9_noMatch hfl h_m h_v) h_m rfl hY_X9_noMatch mm_X9_102 mi_X9_noMatch ml_X9_noMatch ⟨(Nat.le_of_ble_eq_true rfl), (Nat.le_of_ble_eq_true rfl)⟩ rfl hl.1 rfl (Nat.le_of_ble_eq_true rfl) dX9_refusesBowl_1 ⟨(Nat.le_of_ble_eq_true rfl), (Nat.le_of_ble_eq_true rfl)⟩) (kx_no rfl) (fun r3 u2 H locs hp1 G => ?_)
  obtain ⟨rfl, eu2⟩ := hp1
  rw [eu2] at G
  refine lv_iconst (v := 1) hx hb dX9_refusesBowl_4 (by decide) ?_
  refine lv_icmp_ne (tgt := 10) hx hb dX9_refusesBowl_5 (by decide) (fun c4 => absurd (by decide) c4) (fun _ => ?_)
  refine lv_iconst (v := 1) hx hb dX9_refusesBowl_8 (by decide) ?_
  exact g_iret C0 G hr dX9_refusesBowl_9 (Nat.le_of_ble_eq_true rfl) (Nat.le_of_ble_eq_true rfl) (by exact ⟨rfl, rfl⟩)
set_option maxRecDepth 100000 in
theorem k_X9_refusesBall {l : Launch} (hfl : l.stackTraces = false) {D : va_G} {cy : Nat → ClassId} {f : Hf} {sz : Nat} {m v im kp pa de ide tx pt so mo wh pf : Nat} {c_th c_re c_un c_hi c_tn c_fa c_rf c_ps c_pl c_to : Int32} (h_m : f m = some (.inr (11, [.int c_th, .int c_re, .ref v, .ref im, .ref kp, .ref pa, .ref de, .ref ide, .int c_un, .int c_hi, .ref tx, .int c_tn, .int c_fa, .int c_rf, .ref pt, .int c_ps, .int c_pl, .int c_to, .ref so, .ref mo, .ref wh, .ref pf]))) (h_v : f v = some (.inl (cy 0, 6441, .inl (fun _ => 0)))) : hMet l yX9_refusesBall cX9_refusesBall 1 (some .int) { frames := 1, cells := 0, slots := 0, locals := 20 } D (hTy cy) f sz [.ref m] (hQi (fun r u => r = 1 ∧ u = f) D f sz) hNo := by
  refine h_enter (by decide) hfl (Nat.le_of_ble_eq_true rfl) ?_
  intro p9 e9 s9 m9 b9 t9 c9 hsz C0 hr hnm G ls hl
  have hx := C0.1.1
  have hb := C0.1.2.1
  have hl : lv_has ls 1 [(0, .ref m)] := hl
  refine lv_aload_n hx hb dX9_refusesBall_0 rfl (lv_at hl 0 rfl) ?_
  refine g_cI C0 G (g_runV C0 G (rest := []) (k_X9_noMatch hfl h_m h_v) h_m rfl hY_X9_noMatch mm_X9_102 mi_X9_noMatch ml_X9_noMatch ⟨(Nat.le_of_ble_eq_true rfl), (Nat.le_of_ble_eq_true rfl)⟩ rfl hl.1 rfl (Nat.le_of_ble_eq_true rfl) dX9_refusesBall_1 ⟨(Nat.le_of_ble_eq_true rfl), (Nat.le_of_ble_eq_true rfl)⟩) (kx_no rfl) (fun r3 u2 H locs hp1 G => ?_)
  obtain ⟨rfl, eu2⟩ := hp1
  rw [eu2] at G
  refine lv_iconst (v := 1) hx hb dX9_refusesBall_4 (by decide) ?_
  refine lv_icmp_ne (tgt := 12) hx hb dX9_refusesBall_5 (by decide) (fun c4 => absurd (by decide) c4) (fun _ => ?_)
  refine lv_iconst (v := 1) hx hb dX9_refusesBall_8 (by decide) ?_
  refine lv_goto (tgt := 27) hx hb dX9_refusesBall_9 (by decide) ?_
  exact g_iret C0 G hr dX9_refusesBall_27 (Nat.le_of_ble_eq_true rfl) (Nat.le_of_ble_eq_true rfl) (by exact ⟨rfl, rfl⟩)
set_option maxRecDepth 100000 in
theorem k_X9_refusesWicket {l : Launch} (hfl : l.stackTraces = false) {D : va_G} {cy : Nat → ClassId} {f : Hf} {sz : Nat} {m v im kp pa de ide tx pt so mo wh pf : Nat} {c_th c_re c_un c_hi c_tn c_fa c_rf c_ps c_pl c_to : Int32} (way kind oth ru cro : Int32) (h_m : f m = some (.inr (11, [.int c_th, .int c_re, .ref v, .ref im, .ref kp, .ref pa, .ref de, .ref ide, .int c_un, .int c_hi, .ref tx, .int c_tn, .int c_fa, .int c_rf, .ref pt, .int c_ps, .int c_pl, .int c_to, .ref so, .ref mo, .ref wh, .ref pf]))) (h_v : f v = some (.inl (cy 0, 6441, .inl (fun _ => 0)))) : hMet l yX9_refusesWicket cX9_refusesWicket 8 (some .int) { frames := 2, cells := 0, slots := 0, locals := 40 } D (hTy cy) f sz [.ref m, .int way, .int kind, .int oth, .int ru, .int cro] (hQi (fun r u => r = 1 ∧ u = f) D f sz) hNo := by
  refine h_enter (by decide) hfl (Nat.le_of_ble_eq_true rfl) ?_
  intro p9 e9 s9 m9 b9 t9 c9 hsz C0 hr hnm G ls hl
  have hx := C0.1.1
  have hb := C0.1.2.1
  have hl : lv_has ls 8 [(0, .ref m), (1, .int way), (2, .int kind), (3, .int oth), (4, .int ru), (5, .int cro)] := hl
  refine lv_aload_n hx hb dX9_refusesWicket_0 rfl (lv_at hl 0 rfl) ?_
  refine g_cI C0 G (g_runV C0 G (rest := []) (k_X9_refusesBall hfl h_m h_v) h_m rfl hY_X9_refusesBall mm_X9_108 mi_X9_refusesBall ml_X9_refusesBall ⟨(Nat.le_of_ble_eq_true rfl), (Nat.le_of_ble_eq_true rfl)⟩ rfl hl.1 rfl (Nat.le_of_ble_eq_true rfl) dX9_refusesWicket_1 ⟨(Nat.le_of_ble_eq_true rfl), (Nat.le_of_ble_eq_true rfl)⟩) (kx_no rfl) (fun r3 u2 H locs hp1 G => ?_)
  obtain ⟨rfl, eu2⟩ := hp1
  rw [eu2] at G
  refine lv_if_le (tgt := 12) hx hb dX9_refusesWicket_4 (by decide) (fun c4 => absurd c4 (by decide)) (fun _ => ?_)
  refine lv_aload_n hx hb dX9_refusesWicket_7 rfl (lv_at hl 0 rfl) ?_
  refine g_cI C0 G (g_runV C0 G (rest := []) (k_X9_refusesBall hfl h_m h_v) h_m rfl hY_X9_refusesBall mm_X9_108 mi_X9_refusesBall ml_X9_refusesBall ⟨(Nat.le_of_ble_eq_true rfl), (Nat.le_of_ble_eq_true rfl)⟩ rfl hl.1 rfl (Nat.le_of_ble_eq_true rfl) dX9_refusesWicket_8 ⟨(Nat.le_of_ble_eq_true rfl), (Nat.le_of_ble_eq_true rfl)⟩) (kx_no rfl) (fun r7 u6 H locs hp5 G => ?_)
  obtain ⟨rfl, eu6⟩ := hp5
  rw [eu6] at G
  exact g_iret C0 G hr dX9_refusesWicket_11 (Nat.le_of_ble_eq_true rfl) (Nat.le_of_ble_eq_true rfl) (by exact ⟨rfl, rfl⟩)
set_option maxRecDepth 100000 in
theorem k_X9_refuses {l : Launch} (hfl : l.stackTraces = false) {D : va_G} {cy : Nat → ClassId} {f : Hf} {sz : Nat} {m v im kp pa de ide tx pt so mo wh pf : Nat} {c_th c_re c_un c_hi c_tn c_fa c_rf c_ps c_pl c_to : Int32} (wt a b c0 d e0 : Int32) (h_m : f m = some (.inr (11, [.int c_th, .int c_re, .ref v, .ref im, .ref kp, .ref pa, .ref de, .ref ide, .int c_un, .int c_hi, .ref tx, .int c_tn, .int c_fa, .int c_rf, .ref pt, .int c_ps, .int c_pl, .int c_to, .ref so, .ref mo, .ref wh, .ref pf]))) (h_v : f v = some (.inl (cy 0, 6441, .inl (fun _ => 0)))) : hMet l yX9_refuses cX9_refuses 7 (some .int) { frames := 3, cells := 0, slots := 0, locals := 67 } D (hTy cy) f sz [.ref m, .int wt, .int a, .int b, .int c0, .int d, .int e0] (hQi (fun r u => r = 1 ∧ u = f) D f sz) hNo := by
  refine h_enter (by decide) hfl (Nat.le_of_ble_eq_true rfl) ?_
  intro p9 e9 s9 m9 b9 t9 c9 hsz C0 hr hnm G ls hl
  have hx := C0.1.1
  have hb := C0.1.2.1
  have hl : lv_has ls 7 [(0, .ref m), (1, .int wt), (2, .int a), (3, .int b), (4, .int c0), (5, .int d), (6, .int e0)] := hl
  refine lv_iload_n hx hb dX9_refuses_0 rfl (lv_at hl 1 rfl) ?_
  by_cases s1 : wt = 0
  · refine lv_tableIn (off := 43) (tgt := 44) hx hb dX9_refuses_1 (by rw [s1]; decide) (by rw [s1]; decide) (by rw [s1]; rfl) (by decide) ?_
    refine lv_aload_n hx hb dX9_refuses_44 rfl (lv_at hl 0 rfl) ?_
    refine lv_iload_n hx hb dX9_refuses_45 rfl (lv_at hl 2 rfl) ?_
    refine g_cI C0 G (g_runV C0 G (rest := []) (k_X9_refusesBowl hfl a h_m h_v) h_m rfl hY_X9_refusesBowl mm_X9_111 mi_X9_refusesBowl ml_X9_refusesBowl ⟨(Nat.le_of_ble_eq_true rfl), (Nat.le_of_ble_eq_true rfl)⟩ rfl hl.1 rfl (Nat.le_of_ble_eq_true rfl) dX9_refuses_46 ⟨(Nat.le_of_ble_eq_true rfl), (Nat.le_of_ble_eq_true rfl)⟩) (kx_no rfl) (fun r4 u3 H locs hp2 G => ?_)
    obtain ⟨rfl, eu3⟩ := hp2
    rw [eu3] at G
    exact g_iret C0 G hr dX9_refuses_49 (Nat.le_of_ble_eq_true rfl) (Nat.le_of_ble_eq_true rfl) (by exact ⟨rfl, rfl⟩)
  by_cases s5 : wt = 1
  · refine lv_tableIn (off := 49) (tgt := 50) hx hb dX9_refuses_1 (by rw [s5]; decide) (by rw [s5]; decide) (by rw [s5]; rfl) (by decide) ?_
    refine lv_aload_n hx hb dX9_refuses_50 rfl (lv_at hl 0 rfl) ?_
    refine g_cI C0 G (g_runV C0 G (rest := []) (k_X9_refusesBall hfl h_m h_v) h_m rfl hY_X9_refusesBall mm_X9_108 mi_X9_refusesBall ml_X9_refusesBall ⟨(Nat.le_of_ble_eq_true rfl), (Nat.le_of_ble_eq_true rfl)⟩ rfl hl.1 rfl (Nat.le_of_ble_eq_true rfl) dX9_refuses_51 ⟨(Nat.le_of_ble_eq_true rfl), (Nat.le_of_ble_eq_true rfl)⟩) (kx_no rfl) (fun r8 u7 H locs hp6 G => ?_)
    obtain ⟨rfl, eu7⟩ := hp6
    rw [eu7] at G
    exact g_iret C0 G hr dX9_refuses_54 (Nat.le_of_ble_eq_true rfl) (Nat.le_of_ble_eq_true rfl) (by exact ⟨rfl, rfl⟩)
  by_cases s9 : wt = 2
  · refine lv_tableIn (off := 54) (tgt := 55) hx hb dX9_refuses_1 (by rw [s9]; decide) (by rw [s9]; decide) (by rw [s9]; rfl) (by decide) ?_
    refine lv_aload_n hx hb dX9_refuses_55 rfl (lv_at hl 0 rfl) ?_
    refine lv_iload_n hx hb dX9_refuses_56 rfl (lv_at hl 2 rfl) ?_
    refine lv_iload_n hx hb dX9_refuses_57 rfl (lv_at hl 3 rfl) ?_
    refine lv_iload hx hb dX9_refuses_58 (lv_at hl 4 rfl) ?_
    refine lv_iconst (v := 1) hx hb dX9_refuses_60 (by decide) ?_
    refine lv_icmp_ne (tgt := 68) hx hb dX9_refuses_61 (by decide) (fun c10 => ?_) (fun c10 => ?_)
    · refine lv_iconst (v := 0) hx hb dX9_refuses_68 (by decide) ?_
      refine lv_iload hx hb dX9_refuses_69 (lv_at hl 5 rfl) ?_
      refine lv_iload hx hb dX9_refuses_71 (lv_at hl 6 rfl) ?_
      refine lv_iconst (v := 1) hx hb dX9_refuses_73 (by decide) ?_
      refine lv_icmp_ne (tgt := 81) hx hb dX9_refuses_74 (by decide) (fun c11 => ?_) (fun c11 => ?_)
      · refine lv_iconst (v := 0) hx hb dX9_refuses_81 (by decide) ?_
        refine g_cI C0 G (g_runV C0 G (rest := []) (k_X9_refusesWicket hfl a b 0 d 0 h_m h_v) h_m rfl hY_X9_refusesWicket mm_X9_114 mi_X9_refusesWicket ml_X9_refusesWicket ⟨(Nat.le_of_ble_eq_true rfl), (Nat.le_of_ble_eq_true rfl)⟩ rfl hl.1 rfl (Nat.le_of_ble_eq_true rfl) dX9_refuses_82 ⟨(Nat.le_of_ble_eq_true rfl), (Nat.le_of_ble_eq_true rfl)⟩) (kx_no rfl) (fun r14 u13 H locs hp12 G => ?_)
        obtain ⟨rfl, eu13⟩ := hp12
        rw [eu13] at G
        exact g_iret C0 G hr dX9_refuses_85 (Nat.le_of_ble_eq_true rfl) (Nat.le_of_ble_eq_true rfl) (by exact ⟨rfl, rfl⟩)
      · refine lv_iconst (v := 1) hx hb dX9_refuses_77 (by decide) ?_
        refine lv_goto (tgt := 82) hx hb dX9_refuses_78 (by decide) ?_
        refine g_cI C0 G (g_runV C0 G (rest := []) (k_X9_refusesWicket hfl a b 0 d 1 h_m h_v) h_m rfl hY_X9_refusesWicket mm_X9_114 mi_X9_refusesWicket ml_X9_refusesWicket ⟨(Nat.le_of_ble_eq_true rfl), (Nat.le_of_ble_eq_true rfl)⟩ rfl hl.1 rfl (Nat.le_of_ble_eq_true rfl) dX9_refuses_82 ⟨(Nat.le_of_ble_eq_true rfl), (Nat.le_of_ble_eq_true rfl)⟩) (kx_no rfl) (fun r17 u16 H locs hp15 G => ?_)
        obtain ⟨rfl, eu16⟩ := hp15
        rw [eu16] at G
        exact g_iret C0 G hr dX9_refuses_85 (Nat.le_of_ble_eq_true rfl) (Nat.le_of_ble_eq_true rfl) (by exact ⟨rfl, rfl⟩)
    · refine lv_iconst (v := 1) hx hb dX9_refuses_64 (by decide) ?_
      refine lv_goto (tgt := 69) hx hb dX9_refuses_65 (by decide) ?_
      refine lv_iload hx hb dX9_refuses_69 (lv_at hl 5 rfl) ?_
      refine lv_iload hx hb dX9_refuses_71 (lv_at hl 6 rfl) ?_
      refine lv_iconst (v := 1) hx hb dX9_refuses_73 (by decide) ?_
      refine lv_icmp_ne (tgt := 81) hx hb dX9_refuses_74 (by decide) (fun c18 => ?_) (fun c18 => ?_)
      · refine lv_iconst (v := 0) hx hb dX9_refuses_81 (by decide) ?_
        refine g_cI C0 G (g_runV C0 G (rest := []) (k_X9_refusesWicket hfl a b 1 d 0 h_m h_v) h_m rfl hY_X9_refusesWicket mm_X9_114 mi_X9_refusesWicket ml_X9_refusesWicket ⟨(Nat.le_of_ble_eq_true rfl), (Nat.le_of_ble_eq_true rfl)⟩ rfl hl.1 rfl (Nat.le_of_ble_eq_true rfl) dX9_refuses_82 ⟨(Nat.le_of_ble_eq_true rfl), (Nat.le_of_ble_eq_true rfl)⟩) (kx_no rfl) (fun r21 u20 H locs hp19 G => ?_)
        obtain ⟨rfl, eu20⟩ := hp19
        rw [eu20] at G
        exact g_iret C0 G hr dX9_refuses_85 (Nat.le_of_ble_eq_true rfl) (Nat.le_of_ble_eq_true rfl) (by exact ⟨rfl, rfl⟩)
      · refine lv_iconst (v := 1) hx hb dX9_refuses_77 (by decide) ?_
        refine lv_goto (tgt := 82) hx hb dX9_refuses_78 (by decide) ?_
        refine g_cI C0 G (g_runV C0 G (rest := []) (k_X9_refusesWicket hfl a b 1 d 1 h_m h_v) h_m rfl hY_X9_refusesWicket mm_X9_114 mi_X9_refusesWicket ml_X9_refusesWicket ⟨(Nat.le_of_ble_eq_true rfl), (Nat.le_of_ble_eq_true rfl)⟩ rfl hl.1 rfl (Nat.le_of_ble_eq_true rfl) dX9_refuses_82 ⟨(Nat.le_of_ble_eq_true rfl), (Nat.le_of_ble_eq_true rfl)⟩) (kx_no rfl) (fun r24 u23 H locs hp22 G => ?_)
        obtain ⟨rfl, eu23⟩ := hp22
        rw [eu23] at G
        exact g_iret C0 G hr dX9_refuses_85 (Nat.le_of_ble_eq_true rfl) (Nat.le_of_ble_eq_true rfl) (by exact ⟨rfl, rfl⟩)
  by_cases s25 : wt = 3
  · refine lv_tableIn (off := 156) (tgt := 157) hx hb dX9_refuses_1 (by rw [s25]; decide) (by rw [s25]; decide) (by rw [s25]; rfl) (by decide) ?_
    refine lv_aload_n hx hb dX9_refuses_157 rfl (lv_at hl 0 rfl) ?_
    refine g_cI C0 G (g_runV C0 G (rest := []) (k_X9_noMatch hfl h_m h_v) h_m rfl hY_X9_noMatch mm_X9_102 mi_X9_noMatch ml_X9_noMatch ⟨(Nat.le_of_ble_eq_true rfl), (Nat.le_of_ble_eq_true rfl)⟩ rfl hl.1 rfl (Nat.le_of_ble_eq_true rfl) dX9_refuses_158 ⟨(Nat.le_of_ble_eq_true rfl), (Nat.le_of_ble_eq_true rfl)⟩) (kx_no rfl) (fun r28 u27 H locs hp26 G => ?_)
    obtain ⟨rfl, eu27⟩ := hp26
    rw [eu27] at G
    exact g_iret C0 G hr dX9_refuses_161 (Nat.le_of_ble_eq_true rfl) (Nat.le_of_ble_eq_true rfl) (by exact ⟨rfl, rfl⟩)
  by_cases s29 : wt = 4
  · refine lv_tableIn (off := 85) (tgt := 86) hx hb dX9_refuses_1 (by rw [s29]; decide) (by rw [s29]; decide) (by rw [s29]; rfl) (by decide) ?_
    refine lv_aload_n hx hb dX9_refuses_86 rfl (lv_at hl 0 rfl) ?_
    refine g_cI C0 G (g_runV C0 G (rest := []) (k_X9_noMatch hfl h_m h_v) h_m rfl hY_X9_noMatch mm_X9_102 mi_X9_noMatch ml_X9_noMatch ⟨(Nat.le_of_ble_eq_true rfl), (Nat.le_of_ble_eq_true rfl)⟩ rfl hl.1 rfl (Nat.le_of_ble_eq_true rfl) dX9_refuses_87 ⟨(Nat.le_of_ble_eq_true rfl), (Nat.le_of_ble_eq_true rfl)⟩) (kx_no rfl) (fun r32 u31 H locs hp30 G => ?_)
    obtain ⟨rfl, eu31⟩ := hp30
    rw [eu31] at G
    refine lv_iconst (v := 1) hx hb dX9_refuses_90 (by decide) ?_
    refine lv_icmp_ne (tgt := 98) hx hb dX9_refuses_91 (by decide) (fun c33 => absurd (by decide) c33) (fun _ => ?_)
    refine lv_iconst (v := 1) hx hb dX9_refuses_94 (by decide) ?_
    refine lv_goto (tgt := 111) hx hb dX9_refuses_95 (by decide) ?_
    exact g_iret C0 G hr dX9_refuses_111 (Nat.le_of_ble_eq_true rfl) (Nat.le_of_ble_eq_true rfl) (by exact ⟨rfl, rfl⟩)
  by_cases s34 : wt = 5
  · refine lv_tableIn (off := 156) (tgt := 157) hx hb dX9_refuses_1 (by rw [s34]; decide) (by rw [s34]; decide) (by rw [s34]; rfl) (by decide) ?_
    refine lv_aload_n hx hb dX9_refuses_157 rfl (lv_at hl 0 rfl) ?_
    refine g_cI C0 G (g_runV C0 G (rest := []) (k_X9_noMatch hfl h_m h_v) h_m rfl hY_X9_noMatch mm_X9_102 mi_X9_noMatch ml_X9_noMatch ⟨(Nat.le_of_ble_eq_true rfl), (Nat.le_of_ble_eq_true rfl)⟩ rfl hl.1 rfl (Nat.le_of_ble_eq_true rfl) dX9_refuses_158 ⟨(Nat.le_of_ble_eq_true rfl), (Nat.le_of_ble_eq_true rfl)⟩) (kx_no rfl) (fun r37 u36 H locs hp35 G => ?_)
    obtain ⟨rfl, eu36⟩ := hp35
    rw [eu36] at G
    exact g_iret C0 G hr dX9_refuses_161 (Nat.le_of_ble_eq_true rfl) (Nat.le_of_ble_eq_true rfl) (by exact ⟨rfl, rfl⟩)
  by_cases s38 : wt = 6
  · refine lv_tableIn (off := 111) (tgt := 112) hx hb dX9_refuses_1 (by rw [s38]; decide) (by rw [s38]; decide) (by rw [s38]; rfl) (by decide) ?_
    refine lv_aload_n hx hb dX9_refuses_112 rfl (lv_at hl 0 rfl) ?_
    refine g_cI C0 G (g_runV C0 G (rest := []) (k_X9_noMatch hfl h_m h_v) h_m rfl hY_X9_noMatch mm_X9_102 mi_X9_noMatch ml_X9_noMatch ⟨(Nat.le_of_ble_eq_true rfl), (Nat.le_of_ble_eq_true rfl)⟩ rfl hl.1 rfl (Nat.le_of_ble_eq_true rfl) dX9_refuses_113 ⟨(Nat.le_of_ble_eq_true rfl), (Nat.le_of_ble_eq_true rfl)⟩) (kx_no rfl) (fun r41 u40 H locs hp39 G => ?_)
    obtain ⟨rfl, eu40⟩ := hp39
    rw [eu40] at G
    refine lv_iconst (v := 1) hx hb dX9_refuses_116 (by decide) ?_
    refine lv_icmp_ne (tgt := 124) hx hb dX9_refuses_117 (by decide) (fun c42 => absurd (by decide) c42) (fun _ => ?_)
    refine lv_iconst (v := 1) hx hb dX9_refuses_120 (by decide) ?_
    refine lv_goto (tgt := 156) hx hb dX9_refuses_121 (by decide) ?_
    exact g_iret C0 G hr dX9_refuses_156 (Nat.le_of_ble_eq_true rfl) (Nat.le_of_ble_eq_true rfl) (by exact ⟨rfl, rfl⟩)
  have s43 : wt.toInt < 0 ∨ 6 < wt.toInt := by
    have ts1 : wt.toInt ≠ 0 := fun z => s1 (Int32.toInt_inj.mp z)
    have ts5 : wt.toInt ≠ 1 := fun z => s5 (Int32.toInt_inj.mp z)
    have ts9 : wt.toInt ≠ 2 := fun z => s9 (Int32.toInt_inj.mp z)
    have ts25 : wt.toInt ≠ 3 := fun z => s25 (Int32.toInt_inj.mp z)
    have ts29 : wt.toInt ≠ 4 := fun z => s29 (Int32.toInt_inj.mp z)
    have ts34 : wt.toInt ≠ 5 := fun z => s34 (Int32.toInt_inj.mp z)
    have ts38 : wt.toInt ≠ 6 := fun z => s38 (Int32.toInt_inj.mp z)
    omega
  refine lv_tableOut (tgt := 157) hx hb dX9_refuses_1 s43 (by decide) ?_
  refine lv_aload_n hx hb dX9_refuses_157 rfl (lv_at hl 0 rfl) ?_
  refine g_cI C0 G (g_runV C0 G (rest := []) (k_X9_noMatch hfl h_m h_v) h_m rfl hY_X9_noMatch mm_X9_102 mi_X9_noMatch ml_X9_noMatch ⟨(Nat.le_of_ble_eq_true rfl), (Nat.le_of_ble_eq_true rfl)⟩ rfl hl.1 rfl (Nat.le_of_ble_eq_true rfl) dX9_refuses_158 ⟨(Nat.le_of_ble_eq_true rfl), (Nat.le_of_ble_eq_true rfl)⟩) (kx_no rfl) (fun r46 u45 H locs hp44 G => ?_)
  obtain ⟨rfl, eu45⟩ := hp44
  rw [eu45] at G
  exact g_iret C0 G hr dX9_refuses_161 (Nat.le_of_ble_eq_true rfl) (Nat.le_of_ble_eq_true rfl) (by exact ⟨rfl, rfl⟩)
set_option maxRecDepth 100000 in
theorem k_X9_commands {l : Launch} (hfl : l.stackTraces = false) {D : va_G} {cy : Nat → ClassId} {f : Hf} {sz : Nat} {m v im kp pa de ide tx pt so mo wh pf : Nat} {c_th c_re c_un c_hi c_tn c_fa c_rf c_ps c_pl c_to : Int32} (code wt a b c0 d e0 : Int32) (h_m : f m = some (.inr (11, [.int c_th, .int c_re, .ref v, .ref im, .ref kp, .ref pa, .ref de, .ref ide, .int c_un, .int c_hi, .ref tx, .int c_tn, .int c_fa, .int c_rf, .ref pt, .int c_ps, .int c_pl, .int c_to, .ref so, .ref mo, .ref wh, .ref pf]))) (h_v : f v = some (.inl (cy 0, 6441, .inl (fun _ => 0)))) : hMet l yX9_commands cX9_commands 10 (some .int) { frames := 4, cells := 0, slots := 0, locals := 93 } D (hTy cy) f sz [.ref m, .int code, .int wt, .int a, .int b, .int c0, .int d, .int e0] (hQi (fun r u => hT u m code) D f sz) hNo := by
  refine h_enter (by decide) hfl (Nat.le_of_ble_eq_true rfl) ?_
  intro p9 e9 s9 m9 b9 t9 c9 hsz C0 hr hnm G ls hl
  have hx := C0.1.1
  have hb := C0.1.2.1
  have hl : lv_has ls 10 [(0, .ref m), (1, .int code), (2, .int wt), (3, .int a), (4, .int b), (5, .int c0), (6, .int d), (7, .int e0)] := hl
  refine lv_aload_n hx hb dX9_commands_0 rfl (lv_at hl 0 rfl) ?_
  refine lv_iload_n hx hb dX9_commands_1 rfl (lv_at hl 2 rfl) ?_
  refine lv_iload_n hx hb dX9_commands_2 rfl (lv_at hl 3 rfl) ?_
  refine lv_iload hx hb dX9_commands_3 (lv_at hl 4 rfl) ?_
  refine lv_iload hx hb dX9_commands_5 (lv_at hl 5 rfl) ?_
  refine lv_iload hx hb dX9_commands_7 (lv_at hl 6 rfl) ?_
  refine lv_iload hx hb dX9_commands_9 (lv_at hl 7 rfl) ?_
  refine g_cI C0 G (g_runV C0 G (rest := []) (k_X9_refuses hfl wt a b c0 d e0 h_m h_v) h_m rfl hY_X9_refuses mm_X9_162 mi_X9_refuses ml_X9_refuses ⟨(Nat.le_of_ble_eq_true rfl), (Nat.le_of_ble_eq_true rfl)⟩ rfl hl.1 rfl (Nat.le_of_ble_eq_true rfl) dX9_commands_11 ⟨(Nat.le_of_ble_eq_true rfl), (Nat.le_of_ble_eq_true rfl)⟩) (kx_no rfl) (fun r3 u2 H locs hp1 G => ?_)
  obtain ⟨rfl, eu2⟩ := hp1
  rw [eu2] at G
  refine lv_istore (lv' := [(8, .int 1), (0, .ref m), (1, .int code), (2, .int wt), (3, .int a), (4, .int b), (5, .int c0), (6, .int d), (7, .int e0)]) hx hb dX9_commands_14 hl (by decide) rfl (fun ls hl => ?_)
  refine lv_iload hx hb dX9_commands_16 (lv_at hl 0 rfl) ?_
  refine lv_if_le (tgt := 33) hx hb dX9_commands_18 (by decide) (fun c4 => absurd c4 (by decide)) (fun _ => ?_)
  refine lv_aload_n hx hb dX9_commands_21 rfl (lv_at hl 1 rfl) ?_
  refine lv_iload hx hb dX9_commands_22 (lv_at hl 0 rfl) ?_
  refine g_put C0 G h_m rfl hiX9 tyX9 tyX9_ok nmX9 1 (by decide) mf_X9_166 rfl rfl rfl rfl (Nat.le_of_ble_eq_true rfl) dX9_commands_24 (fun H locs f5 hf5 G => ?_)
  have k6 : f5 m = some (.inr (11, [.int c_th, .int 1, .ref v, .ref im, .ref kp, .ref pa, .ref de, .ref ide, .int c_un, .int c_hi, .ref tx, .int c_tn, .int c_fa, .int c_rf, .ref pt, .int c_ps, .int c_pl, .int c_to, .ref so, .ref mo, .ref wh, .ref pf])) := hus hf5
  refine lv_aload_n hx hb dX9_commands_27 rfl (lv_at hl 1 rfl) ?_
  refine lv_iload_n hx hb dX9_commands_28 rfl (lv_at hl 2 rfl) ?_
  refine g_cI C0 G (g_runV C0 G (rest := []) (k_X9_no hfl code k6) k6 rfl hY_X9_no mm_X9_169 mi_X9_no ml_X9_no ⟨(Nat.le_of_ble_eq_true rfl), (Nat.le_of_ble_eq_true rfl)⟩ rfl hl.1 rfl (Nat.le_of_ble_eq_true rfl) dX9_commands_29 ⟨(Nat.le_of_ble_eq_true rfl), (Nat.le_of_ble_eq_true rfl)⟩) (kx_no rfl) (fun r9 u8 H locs hp7 G => ?_)
  obtain ⟨rfl, e10⟩ := hp7
  have k11 : u8 m = some (.inr (11, [.int code, .int 1, .ref v, .ref im, .ref kp, .ref pa, .ref de, .ref ide, .int c_un, .int c_hi, .ref tx, .int c_tn, .int c_fa, .int c_rf, .ref pt, .int c_ps, .int c_pl, .int c_to, .ref so, .ref mo, .ref wh, .ref pf])) := hus e10
  exact g_iret C0 G hr dX9_commands_32 (Nat.le_of_ble_eq_true rfl) (Nat.le_of_ble_eq_true rfl) (by exact ⟨_, k11⟩)
set_option maxRecDepth 100000 in
theorem k_X9_bit {l : Launch} (hfl : l.stackTraces = false) {D : va_G} {cy : Nat → ClassId} {f : Hf} {sz : Nat} (bo : Int32) (hb_bo : bo = 0 ∨ bo = 1) : hMet l yX9_bit cX9_bit 1 (some .int) { frames := 0, cells := 0, slots := 0, locals := 0 } D (hTy cy) f sz [.int bo] (hQi (fun r u => True ∧ u = f) D f sz) hNo := by
  refine h_enter (by decide) hfl (Nat.le_of_ble_eq_true rfl) ?_
  intro p9 e9 s9 m9 b9 t9 c9 hsz C0 hr hnm G ls hl
  have hx := C0.1.1
  have hb := C0.1.2.1
  have hl : lv_has ls 1 [(0, .int bo)] := hl
  refine lv_iload_n hx hb dX9_bit_0 rfl (lv_at hl 0 rfl) ?_
  refine lv_if_eq (tgt := 8) hx hb dX9_bit_1 (by decide) (fun c1 => ?_) (fun c1 => ?_)
  · refine lv_iconst (v := 0) hx hb dX9_bit_8 (by decide) ?_
    exact g_iret C0 G hr dX9_bit_9 (Nat.le_of_ble_eq_true rfl) (Nat.le_of_ble_eq_true rfl) (by exact ⟨trivial, rfl⟩)
  · refine lv_iconst (v := 1) hx hb dX9_bit_4 (by decide) ?_
    refine lv_goto (tgt := 9) hx hb dX9_bit_5 (by decide) ?_
    exact g_iret C0 G hr dX9_bit_9 (Nat.le_of_ble_eq_true rfl) (Nat.le_of_ble_eq_true rfl) (by exact ⟨trivial, rfl⟩)
set_option maxRecDepth 100000 in
theorem k_X9_bowl {l : Launch} (hfl : l.stackTraces = false) {D : va_G} {cy : Nat → ClassId} {f : Hf} {sz : Nat} {m v im kp pa de ide tx pt so mo wh pf : Nat} (p : Int32) (h_m : f m = some (.inr (11, [.int 0, .int 0, .ref v, .ref im, .ref kp, .ref pa, .ref de, .ref ide, .int 0, .int 0, .ref tx, .int 0, .int (-1), .int (-1), .ref pt, .int 0, .int 0, .int 0, .ref so, .ref mo, .ref wh, .ref pf]))) (h_v : f v = some (.inl (cy 0, 6441, .inl (fun _ => 0)))) : hMet l yX9_bowl cX9_bowl 2 (some .int) { frames := 5, cells := 0, slots := 0, locals := 122 } D (hTy cy) f sz [.ref m, .int p] (hQi (fun r u => ((0 ≤ p ∧ p ≤ 10) ∧ hT u m 2) ∨ ((¬ (0 ≤ p ∧ p ≤ 10)) ∧ hT u m 1)) D f sz) hNo := by
  refine h_enter (by decide) hfl (Nat.le_of_ble_eq_true rfl) ?_
  intro p9 e9 s9 m9 b9 t9 c9 hsz C0 hr hnm G ls hl
  have hx := C0.1.1
  have hb := C0.1.2.1
  have hl : lv_has ls 2 [(0, .ref m), (1, .int p)] := hl
  refine lv_aload_n hx hb dX9_bowl_0 rfl (lv_at hl 0 rfl) ?_
  refine lv_iload_n hx hb dX9_bowl_1 rfl (lv_at hl 1 rfl) ?_
  refine lv_iconst (v := 0) hx hb dX9_bowl_2 (by decide) ?_
  refine lv_bipush (v := 10) hx hb dX9_bowl_3 (by decide) ?_
  refine g_cI C0 G (g_runS C0 G (rest := [.ref m]) (k_X9_isIn hfl p 0 10) hY_X9_isIn mm_X9_76 ms_X9_isIn ⟨(Nat.le_of_ble_eq_true rfl), (Nat.le_of_ble_eq_true rfl)⟩ rfl hl.1 rfl (Nat.le_of_ble_eq_true rfl) dX9_bowl_5 ⟨(Nat.le_of_ble_eq_true rfl), (Nat.le_of_ble_eq_true rfl)⟩) (kx_no rfl) (fun r3 u2 H locs hp1 G => ?_)
  obtain ⟨b4, eu2⟩ := hp1
  rw [eu2] at G
  rcases b4 with ⟨rfl, c5⟩ | ⟨rfl, c5⟩
  · refine lv_if_eq (tgt := 15) hx hb dX9_bowl_8 (by decide) (fun c6 => absurd c6 (by decide)) (fun _ => ?_)
    refine lv_iconst (v := 0) hx hb dX9_bowl_11 (by decide) ?_
    refine lv_goto (tgt := 16) hx hb dX9_bowl_12 (by decide) ?_
    refine g_put C0 G h_m rfl hiX9 tyX9 tyX9_ok nmX9 0 (by decide) mf_X9_55 rfl rfl rfl rfl (Nat.le_of_ble_eq_true rfl) dX9_bowl_16 (fun H locs f7 hf7 G => ?_)
    have k8 : f7 m = some (.inr (11, [.int 0, .int 0, .ref v, .ref im, .ref kp, .ref pa, .ref de, .ref ide, .int 0, .int 0, .ref tx, .int 0, .int (-1), .int (-1), .ref pt, .int 0, .int 0, .int 0, .ref so, .ref mo, .ref wh, .ref pf])) := hus hf7
    refine lv_aload_n hx hb dX9_bowl_19 rfl (lv_at hl 0 rfl) ?_
    refine g_get C0 G k8 rfl hiX9 0 (by decide) mf_X9_55 rfl dX9_bowl_20 ?_
    refine lv_iconst (v := 1) hx hb dX9_bowl_23 (by decide) ?_
    refine lv_icmp_ne (tgt := 31) hx hb dX9_bowl_24 (by decide) (fun _ => ?_) (fun c9 => absurd c9 (by decide))
    refine lv_aload_n hx hb dX9_bowl_31 rfl (lv_at hl 0 rfl) ?_
    refine lv_iconst (v := 2) hx hb dX9_bowl_32 (by decide) ?_
    refine lv_iconst (v := 0) hx hb dX9_bowl_33 (by decide) ?_
    refine lv_iload_n hx hb dX9_bowl_34 rfl (lv_at hl 1 rfl) ?_
    refine lv_iconst (v := 0) hx hb dX9_bowl_35 (by decide) ?_
    refine lv_iconst (v := 0) hx hb dX9_bowl_36 (by decide) ?_
    refine lv_iconst (v := 0) hx hb dX9_bowl_37 (by decide) ?_
    refine lv_iconst (v := 0) hx hb dX9_bowl_38 (by decide) ?_
    have k10 : f7 v = some (.inl (cy 0, 6441, .inl (fun _ => 0))) := hup hf7 (hne h_v h_m (by intro q; cases q)) h_v
    refine g_cI C0 G (g_runV C0 G (rest := []) (k_X9_commands hfl 2 0 p 0 0 0 0 k8 k10) k8 rfl hY_X9_commands mm_X9_179 mi_X9_commands ml_X9_commands ⟨(Nat.le_of_ble_eq_true rfl), (Nat.le_of_ble_eq_true rfl)⟩ rfl hl.1 rfl (Nat.le_of_ble_eq_true rfl) dX9_bowl_39 ⟨(Nat.le_of_ble_eq_true rfl), (Nat.le_of_ble_eq_true rfl)⟩) (kx_no rfl) (fun r13 u12 H locs hp11 G => ?_)
    exact g_iret C0 G hr dX9_bowl_42 (Nat.le_of_ble_eq_true rfl) (Nat.le_of_ble_eq_true rfl) (by exact Or.inl (⟨(by first | assumption | (simp_all; done) | (simp only [Int32.lt_iff_toInt_lt, Int32.le_iff_toInt_le] at *; omega)), hp11⟩))
  · refine lv_if_eq (tgt := 15) hx hb dX9_bowl_8 (by decide) (fun _ => ?_) (fun c14 => absurd (by decide) c14)
    refine lv_iconst (v := 1) hx hb dX9_bowl_15 (by decide) ?_
    refine g_put C0 G h_m rfl hiX9 tyX9 tyX9_ok nmX9 0 (by decide) mf_X9_55 rfl rfl rfl rfl (Nat.le_of_ble_eq_true rfl) dX9_bowl_16 (fun H locs f15 hf15 G => ?_)
    have k16 : f15 m = some (.inr (11, [.int 1, .int 0, .ref v, .ref im, .ref kp, .ref pa, .ref de, .ref ide, .int 0, .int 0, .ref tx, .int 0, .int (-1), .int (-1), .ref pt, .int 0, .int 0, .int 0, .ref so, .ref mo, .ref wh, .ref pf])) := hus hf15
    refine lv_aload_n hx hb dX9_bowl_19 rfl (lv_at hl 0 rfl) ?_
    refine g_get C0 G k16 rfl hiX9 0 (by decide) mf_X9_55 rfl dX9_bowl_20 ?_
    refine lv_iconst (v := 1) hx hb dX9_bowl_23 (by decide) ?_
    refine lv_icmp_ne (tgt := 31) hx hb dX9_bowl_24 (by decide) (fun c17 => absurd (by decide) c17) (fun _ => ?_)
    refine lv_iconst (v := 0) hx hb dX9_bowl_27 (by decide) ?_
    refine lv_goto (tgt := 42) hx hb dX9_bowl_28 (by decide) ?_
    exact g_iret C0 G hr dX9_bowl_42 (Nat.le_of_ble_eq_true rfl) (Nat.le_of_ble_eq_true rfl) (by exact Or.inr (⟨(by first | assumption | (simp_all; done) | (simp only [Int32.lt_iff_toInt_lt, Int32.le_iff_toInt_le] at *; omega)), ⟨_, k16⟩⟩))
set_option maxRecDepth 100000 in
theorem k_X9_isBall {l : Launch} (hfl : l.stackTraces = false) {D : va_G} {cy : Nat → ClassId} {f : Hf} {sz : Nat} (ki ru bo : Int32) (hb_bo : bo = 0 ∨ bo = 1) : hMet l yX9_isBall cX9_isBall 4 (some .boolean) { frames := 1, cells := 0, slots := 0, locals := 22 } D (hTy cy) f sz [.int ki, .int ru, .int bo] (hQi (fun r u => ((r = 1 ∧ (0 ≤ ki ∧ ki ≤ 4) ∧ ((if ki = 3 ∨ ki = 4 then 1 else 0) ≤ ru ∧ ru ≤ (if ki = 0 ∨ ki = 2 then 6 else 4)) ∧ (bo = 0 ∨ ((ki = 0 ∨ ki = 2) ∧ (ru = 4 ∨ ru = 6)))) ∨ (r = 0 ∧ ¬ ((0 ≤ ki ∧ ki ≤ 4) ∧ ((if ki = 3 ∨ ki = 4 then 1 else 0) ≤ ru ∧ ru ≤ (if ki = 0 ∨ ki = 2 then 6 else 4)) ∧ (bo = 0 ∨ ((ki = 0 ∨ ki = 2) ∧ (ru = 4 ∨ ru = 6)))))) ∧ u = f) D f sz) hNo := by
  refine h_enter (by decide) hfl (Nat.le_of_ble_eq_true rfl) ?_
  intro p9 e9 s9 m9 b9 t9 c9 hsz C0 hr hnm G ls hl
  have hx := C0.1.1
  have hb := C0.1.2.1
  have hl : lv_has ls 4 [(0, .int ki), (1, .int ru), (2, .int bo)] := hl
  refine lv_iload_n hx hb dX9_isBall_0 rfl (lv_at hl 0 rfl) ?_
  refine lv_if_eq (tgt := 9) hx hb dX9_isBall_1 (by decide) (fun c1 => ?_) (fun c1 => ?_)
  · refine lv_iload_n hx hb dX9_isBall_9 rfl (lv_at hl 1 rfl) ?_
    refine lv_iconst (v := 0) hx hb dX9_isBall_10 (by decide) ?_
    refine lv_bipush (v := 6) hx hb dX9_isBall_11 (by decide) ?_
    refine g_cI C0 G (g_runS C0 G (rest := []) (k_X9_isIn hfl ru 0 6) hY_X9_isIn mm_X9_76 ms_X9_isIn ⟨(Nat.le_of_ble_eq_true rfl), (Nat.le_of_ble_eq_true rfl)⟩ rfl hl.1 rfl (Nat.le_of_ble_eq_true rfl) dX9_isBall_13 ⟨(Nat.le_of_ble_eq_true rfl), (Nat.le_of_ble_eq_true rfl)⟩) (kx_no rfl) (fun r4 u3 H locs hp2 G => ?_)
    obtain ⟨b5, eu3⟩ := hp2
    rw [eu3] at G
    rcases b5 with ⟨rfl, c6⟩ | ⟨rfl, c6⟩
    · refine lv_goto (tgt := 56) hx hb dX9_isBall_16 (by decide) ?_
      refine lv_istore_n (lv' := [(3, .int 1), (0, .int ki), (1, .int ru), (2, .int bo)]) hx hb dX9_isBall_56 rfl hl (by decide) rfl (fun ls hl => ?_)
      refine lv_iload_n hx hb dX9_isBall_57 rfl (lv_at hl 0 rfl) ?_
      refine lv_if_eq (tgt := 89) hx hb dX9_isBall_58 (by decide) (fun c7 => absurd c7 (by decide)) (fun _ => ?_)
      refine lv_iload_n hx hb dX9_isBall_61 rfl (lv_at hl 3 rfl) ?_
      refine lv_if_eq (tgt := 85) hx hb dX9_isBall_62 (by decide) (fun c8 => ?_) (fun c8 => ?_)
      · refine lv_iconst (v := 1) hx hb dX9_isBall_85 (by decide) ?_
        refine lv_goto (tgt := 90) hx hb dX9_isBall_86 (by decide) ?_
        exact g_zret C0 G hr dX9_isBall_90 rfl (Nat.le_of_ble_eq_true rfl) (Nat.le_of_ble_eq_true rfl) (by refine ⟨?_, rfl⟩; exact Or.inl ⟨rfl, (hBallE hb_bo).mpr (by have i0 : (0 : Int32).toInt = 0 := rfl; have i1 : (1 : Int32).toInt = 1 := rfl; have i2 : (2 : Int32).toInt = 2 := rfl; have i3 : (3 : Int32).toInt = 3 := rfl; have i4 : (4 : Int32).toInt = 4 := rfl; have i6 : (6 : Int32).toInt = 6 := rfl; simp only [Int32.le_iff_toInt_le, Int32.lt_iff_toInt_lt, ← Int32.toInt_inj] at *; omega)⟩)
      · refine lv_iload_n hx hb dX9_isBall_65 rfl (lv_at hl 1 rfl) ?_
        refine lv_if_eq (tgt := 74) hx hb dX9_isBall_66 (by decide) (fun c9 => ?_) (fun c9 => ?_)
        · refine lv_iload_n hx hb dX9_isBall_74 rfl (lv_at hl 2 rfl) ?_
          refine lv_iconst (v := 4) hx hb dX9_isBall_75 (by decide) ?_
          refine lv_icmp_eq (tgt := 85) hx hb dX9_isBall_76 (by decide) (fun c10 => ?_) (fun c10 => ?_)
          · refine lv_iconst (v := 1) hx hb dX9_isBall_85 (by decide) ?_
            refine lv_goto (tgt := 90) hx hb dX9_isBall_86 (by decide) ?_
            exact g_zret C0 G hr dX9_isBall_90 rfl (Nat.le_of_ble_eq_true rfl) (Nat.le_of_ble_eq_true rfl) (by refine ⟨?_, rfl⟩; exact Or.inl ⟨rfl, (hBallE hb_bo).mpr (by have i0 : (0 : Int32).toInt = 0 := rfl; have i1 : (1 : Int32).toInt = 1 := rfl; have i2 : (2 : Int32).toInt = 2 := rfl; have i3 : (3 : Int32).toInt = 3 := rfl; have i4 : (4 : Int32).toInt = 4 := rfl; have i6 : (6 : Int32).toInt = 6 := rfl; simp only [Int32.le_iff_toInt_le, Int32.lt_iff_toInt_lt, ← Int32.toInt_inj] at *; omega)⟩)
          · refine lv_iload_n hx hb dX9_isBall_79 rfl (lv_at hl 2 rfl) ?_
            refine lv_bipush (v := 6) hx hb dX9_isBall_80 (by decide) ?_
            refine lv_icmp_ne (tgt := 89) hx hb dX9_isBall_82 (by decide) (fun c11 => ?_) (fun c11 => ?_)
            · refine lv_iconst (v := 0) hx hb dX9_isBall_89 (by decide) ?_
              exact g_zret C0 G hr dX9_isBall_90 rfl (Nat.le_of_ble_eq_true rfl) (Nat.le_of_ble_eq_true rfl) (by refine ⟨?_, rfl⟩; exact Or.inr ⟨rfl, fun q => absurd ((hBallE hb_bo).mp q) (by have i0 : (0 : Int32).toInt = 0 := rfl; have i1 : (1 : Int32).toInt = 1 := rfl; have i2 : (2 : Int32).toInt = 2 := rfl; have i3 : (3 : Int32).toInt = 3 := rfl; have i4 : (4 : Int32).toInt = 4 := rfl; have i6 : (6 : Int32).toInt = 6 := rfl; simp only [Int32.le_iff_toInt_le, Int32.lt_iff_toInt_lt, ← Int32.toInt_inj] at *; omega)⟩)
            · refine lv_iconst (v := 1) hx hb dX9_isBall_85 (by decide) ?_
              refine lv_goto (tgt := 90) hx hb dX9_isBall_86 (by decide) ?_
              exact g_zret C0 G hr dX9_isBall_90 rfl (Nat.le_of_ble_eq_true rfl) (Nat.le_of_ble_eq_true rfl) (by refine ⟨?_, rfl⟩; exact Or.inl ⟨rfl, (hBallE hb_bo).mpr (by have i0 : (0 : Int32).toInt = 0 := rfl; have i1 : (1 : Int32).toInt = 1 := rfl; have i2 : (2 : Int32).toInt = 2 := rfl; have i3 : (3 : Int32).toInt = 3 := rfl; have i4 : (4 : Int32).toInt = 4 := rfl; have i6 : (6 : Int32).toInt = 6 := rfl; simp only [Int32.le_iff_toInt_le, Int32.lt_iff_toInt_lt, ← Int32.toInt_inj] at *; omega)⟩)
        · refine lv_iload_n hx hb dX9_isBall_69 rfl (lv_at hl 1 rfl) ?_
          refine lv_iconst (v := 2) hx hb dX9_isBall_70 (by decide) ?_
          refine lv_icmp_ne (tgt := 89) hx hb dX9_isBall_71 (by decide) (fun c12 => ?_) (fun c12 => ?_)
          · refine lv_iconst (v := 0) hx hb dX9_isBall_89 (by decide) ?_
            exact g_zret C0 G hr dX9_isBall_90 rfl (Nat.le_of_ble_eq_true rfl) (Nat.le_of_ble_eq_true rfl) (by refine ⟨?_, rfl⟩; exact Or.inr ⟨rfl, fun q => absurd ((hBallE hb_bo).mp q) (by have i0 : (0 : Int32).toInt = 0 := rfl; have i1 : (1 : Int32).toInt = 1 := rfl; have i2 : (2 : Int32).toInt = 2 := rfl; have i3 : (3 : Int32).toInt = 3 := rfl; have i4 : (4 : Int32).toInt = 4 := rfl; have i6 : (6 : Int32).toInt = 6 := rfl; simp only [Int32.le_iff_toInt_le, Int32.lt_iff_toInt_lt, ← Int32.toInt_inj] at *; omega)⟩)
          · refine lv_iload_n hx hb dX9_isBall_74 rfl (lv_at hl 2 rfl) ?_
            refine lv_iconst (v := 4) hx hb dX9_isBall_75 (by decide) ?_
            refine lv_icmp_eq (tgt := 85) hx hb dX9_isBall_76 (by decide) (fun c13 => ?_) (fun c13 => ?_)
            · refine lv_iconst (v := 1) hx hb dX9_isBall_85 (by decide) ?_
              refine lv_goto (tgt := 90) hx hb dX9_isBall_86 (by decide) ?_
              exact g_zret C0 G hr dX9_isBall_90 rfl (Nat.le_of_ble_eq_true rfl) (Nat.le_of_ble_eq_true rfl) (by refine ⟨?_, rfl⟩; exact Or.inl ⟨rfl, (hBallE hb_bo).mpr (by have i0 : (0 : Int32).toInt = 0 := rfl; have i1 : (1 : Int32).toInt = 1 := rfl; have i2 : (2 : Int32).toInt = 2 := rfl; have i3 : (3 : Int32).toInt = 3 := rfl; have i4 : (4 : Int32).toInt = 4 := rfl; have i6 : (6 : Int32).toInt = 6 := rfl; simp only [Int32.le_iff_toInt_le, Int32.lt_iff_toInt_lt, ← Int32.toInt_inj] at *; omega)⟩)
            · refine lv_iload_n hx hb dX9_isBall_79 rfl (lv_at hl 2 rfl) ?_
              refine lv_bipush (v := 6) hx hb dX9_isBall_80 (by decide) ?_
              refine lv_icmp_ne (tgt := 89) hx hb dX9_isBall_82 (by decide) (fun c14 => ?_) (fun c14 => ?_)
              · refine lv_iconst (v := 0) hx hb dX9_isBall_89 (by decide) ?_
                exact g_zret C0 G hr dX9_isBall_90 rfl (Nat.le_of_ble_eq_true rfl) (Nat.le_of_ble_eq_true rfl) (by refine ⟨?_, rfl⟩; exact Or.inr ⟨rfl, fun q => absurd ((hBallE hb_bo).mp q) (by have i0 : (0 : Int32).toInt = 0 := rfl; have i1 : (1 : Int32).toInt = 1 := rfl; have i2 : (2 : Int32).toInt = 2 := rfl; have i3 : (3 : Int32).toInt = 3 := rfl; have i4 : (4 : Int32).toInt = 4 := rfl; have i6 : (6 : Int32).toInt = 6 := rfl; simp only [Int32.le_iff_toInt_le, Int32.lt_iff_toInt_lt, ← Int32.toInt_inj] at *; omega)⟩)
              · refine lv_iconst (v := 1) hx hb dX9_isBall_85 (by decide) ?_
                refine lv_goto (tgt := 90) hx hb dX9_isBall_86 (by decide) ?_
                exact g_zret C0 G hr dX9_isBall_90 rfl (Nat.le_of_ble_eq_true rfl) (Nat.le_of_ble_eq_true rfl) (by refine ⟨?_, rfl⟩; exact Or.inl ⟨rfl, (hBallE hb_bo).mpr (by have i0 : (0 : Int32).toInt = 0 := rfl; have i1 : (1 : Int32).toInt = 1 := rfl; have i2 : (2 : Int32).toInt = 2 := rfl; have i3 : (3 : Int32).toInt = 3 := rfl; have i4 : (4 : Int32).toInt = 4 := rfl; have i6 : (6 : Int32).toInt = 6 := rfl; simp only [Int32.le_iff_toInt_le, Int32.lt_iff_toInt_lt, ← Int32.toInt_inj] at *; omega)⟩)
    · refine lv_goto (tgt := 56) hx hb dX9_isBall_16 (by decide) ?_
      refine lv_istore_n (lv' := [(3, .int 0), (0, .int ki), (1, .int ru), (2, .int bo)]) hx hb dX9_isBall_56 rfl hl (by decide) rfl (fun ls hl => ?_)
      refine lv_iload_n hx hb dX9_isBall_57 rfl (lv_at hl 0 rfl) ?_
      refine lv_if_eq (tgt := 89) hx hb dX9_isBall_58 (by decide) (fun _ => ?_) (fun c15 => absurd (by decide) c15)
      refine lv_iconst (v := 0) hx hb dX9_isBall_89 (by decide) ?_
      exact g_zret C0 G hr dX9_isBall_90 rfl (Nat.le_of_ble_eq_true rfl) (Nat.le_of_ble_eq_true rfl) (by refine ⟨?_, rfl⟩; exact Or.inr ⟨rfl, fun q => absurd ((hBallE hb_bo).mp q) (by have i0 : (0 : Int32).toInt = 0 := rfl; have i1 : (1 : Int32).toInt = 1 := rfl; have i2 : (2 : Int32).toInt = 2 := rfl; have i3 : (3 : Int32).toInt = 3 := rfl; have i4 : (4 : Int32).toInt = 4 := rfl; have i6 : (6 : Int32).toInt = 6 := rfl; simp only [Int32.le_iff_toInt_le, Int32.lt_iff_toInt_lt, ← Int32.toInt_inj] at *; omega)⟩)
  · refine lv_iload_n hx hb dX9_isBall_4 rfl (lv_at hl 0 rfl) ?_
    refine lv_iconst (v := 2) hx hb dX9_isBall_5 (by decide) ?_
    refine lv_icmp_ne (tgt := 19) hx hb dX9_isBall_6 (by decide) (fun c16 => ?_) (fun c16 => ?_)
    · refine lv_iload_n hx hb dX9_isBall_19 rfl (lv_at hl 0 rfl) ?_
      refine lv_iconst (v := 1) hx hb dX9_isBall_20 (by decide) ?_
      refine lv_icmp_ne (tgt := 33) hx hb dX9_isBall_21 (by decide) (fun c17 => ?_) (fun c17 => ?_)
      · refine lv_iload_n hx hb dX9_isBall_33 rfl (lv_at hl 0 rfl) ?_
        refine lv_iconst (v := 3) hx hb dX9_isBall_34 (by decide) ?_
        refine lv_iconst (v := 4) hx hb dX9_isBall_35 (by decide) ?_
        refine g_cI C0 G (g_runS C0 G (rest := []) (k_X9_isIn hfl ki 3 4) hY_X9_isIn mm_X9_76 ms_X9_isIn ⟨(Nat.le_of_ble_eq_true rfl), (Nat.le_of_ble_eq_true rfl)⟩ rfl hl.1 rfl (Nat.le_of_ble_eq_true rfl) dX9_isBall_36 ⟨(Nat.le_of_ble_eq_true rfl), (Nat.le_of_ble_eq_true rfl)⟩) (kx_no rfl) (fun r20 u19 H locs hp18 G => ?_)
        obtain ⟨b21, eu19⟩ := hp18
        rw [eu19] at G
        rcases b21 with ⟨rfl, c22⟩ | ⟨rfl, c22⟩
        · refine lv_if_eq (tgt := 55) hx hb dX9_isBall_39 (by decide) (fun c23 => absurd c23 (by decide)) (fun _ => ?_)
          refine lv_iload_n hx hb dX9_isBall_42 rfl (lv_at hl 1 rfl) ?_
          refine lv_iconst (v := 1) hx hb dX9_isBall_43 (by decide) ?_
          refine lv_iconst (v := 4) hx hb dX9_isBall_44 (by decide) ?_
          refine g_cI C0 G (g_runS C0 G (rest := []) (k_X9_isIn hfl ru 1 4) hY_X9_isIn mm_X9_76 ms_X9_isIn ⟨(Nat.le_of_ble_eq_true rfl), (Nat.le_of_ble_eq_true rfl)⟩ rfl hl.1 rfl (Nat.le_of_ble_eq_true rfl) dX9_isBall_45 ⟨(Nat.le_of_ble_eq_true rfl), (Nat.le_of_ble_eq_true rfl)⟩) (kx_no rfl) (fun r26 u25 H locs hp24 G => ?_)
          obtain ⟨b27, eu25⟩ := hp24
          rw [eu25] at G
          rcases b27 with ⟨rfl, c28⟩ | ⟨rfl, c28⟩
          · refine lv_if_eq (tgt := 55) hx hb dX9_isBall_48 (by decide) (fun c29 => absurd c29 (by decide)) (fun _ => ?_)
            refine lv_iconst (v := 1) hx hb dX9_isBall_51 (by decide) ?_
            refine lv_goto (tgt := 56) hx hb dX9_isBall_52 (by decide) ?_
            refine lv_istore_n (lv' := [(3, .int 1), (0, .int ki), (1, .int ru), (2, .int bo)]) hx hb dX9_isBall_56 rfl hl (by decide) rfl (fun ls hl => ?_)
            refine lv_iload_n hx hb dX9_isBall_57 rfl (lv_at hl 0 rfl) ?_
            refine lv_if_eq (tgt := 89) hx hb dX9_isBall_58 (by decide) (fun c30 => absurd c30 (by decide)) (fun _ => ?_)
            refine lv_iload_n hx hb dX9_isBall_61 rfl (lv_at hl 3 rfl) ?_
            refine lv_if_eq (tgt := 85) hx hb dX9_isBall_62 (by decide) (fun c31 => ?_) (fun c31 => ?_)
            · refine lv_iconst (v := 1) hx hb dX9_isBall_85 (by decide) ?_
              refine lv_goto (tgt := 90) hx hb dX9_isBall_86 (by decide) ?_
              exact g_zret C0 G hr dX9_isBall_90 rfl (Nat.le_of_ble_eq_true rfl) (Nat.le_of_ble_eq_true rfl) (by refine ⟨?_, rfl⟩; exact Or.inl ⟨rfl, (hBallE hb_bo).mpr (by have i0 : (0 : Int32).toInt = 0 := rfl; have i1 : (1 : Int32).toInt = 1 := rfl; have i2 : (2 : Int32).toInt = 2 := rfl; have i3 : (3 : Int32).toInt = 3 := rfl; have i4 : (4 : Int32).toInt = 4 := rfl; have i6 : (6 : Int32).toInt = 6 := rfl; simp only [Int32.le_iff_toInt_le, Int32.lt_iff_toInt_lt, ← Int32.toInt_inj] at *; omega)⟩)
            · refine lv_iload_n hx hb dX9_isBall_65 rfl (lv_at hl 1 rfl) ?_
              refine lv_if_eq (tgt := 74) hx hb dX9_isBall_66 (by decide) (fun c32 => ?_) (fun c32 => ?_)
              · refine lv_iload_n hx hb dX9_isBall_74 rfl (lv_at hl 2 rfl) ?_
                refine lv_iconst (v := 4) hx hb dX9_isBall_75 (by decide) ?_
                refine lv_icmp_eq (tgt := 85) hx hb dX9_isBall_76 (by decide) (fun c33 => ?_) (fun c33 => ?_)
                · refine lv_iconst (v := 1) hx hb dX9_isBall_85 (by decide) ?_
                  refine lv_goto (tgt := 90) hx hb dX9_isBall_86 (by decide) ?_
                  exact g_zret C0 G hr dX9_isBall_90 rfl (Nat.le_of_ble_eq_true rfl) (Nat.le_of_ble_eq_true rfl) (by refine ⟨?_, rfl⟩; exact Or.inl ⟨rfl, (hBallE hb_bo).mpr (by have i0 : (0 : Int32).toInt = 0 := rfl; have i1 : (1 : Int32).toInt = 1 := rfl; have i2 : (2 : Int32).toInt = 2 := rfl; have i3 : (3 : Int32).toInt = 3 := rfl; have i4 : (4 : Int32).toInt = 4 := rfl; have i6 : (6 : Int32).toInt = 6 := rfl; simp only [Int32.le_iff_toInt_le, Int32.lt_iff_toInt_lt, ← Int32.toInt_inj] at *; omega)⟩)
                · refine lv_iload_n hx hb dX9_isBall_79 rfl (lv_at hl 2 rfl) ?_
                  refine lv_bipush (v := 6) hx hb dX9_isBall_80 (by decide) ?_
                  refine lv_icmp_ne (tgt := 89) hx hb dX9_isBall_82 (by decide) (fun c34 => ?_) (fun c34 => ?_)
                  · refine lv_iconst (v := 0) hx hb dX9_isBall_89 (by decide) ?_
                    exact g_zret C0 G hr dX9_isBall_90 rfl (Nat.le_of_ble_eq_true rfl) (Nat.le_of_ble_eq_true rfl) (by refine ⟨?_, rfl⟩; exact Or.inr ⟨rfl, fun q => absurd ((hBallE hb_bo).mp q) (by have i0 : (0 : Int32).toInt = 0 := rfl; have i1 : (1 : Int32).toInt = 1 := rfl; have i2 : (2 : Int32).toInt = 2 := rfl; have i3 : (3 : Int32).toInt = 3 := rfl; have i4 : (4 : Int32).toInt = 4 := rfl; have i6 : (6 : Int32).toInt = 6 := rfl; simp only [Int32.le_iff_toInt_le, Int32.lt_iff_toInt_lt, ← Int32.toInt_inj] at *; omega)⟩)
                  · refine lv_iconst (v := 1) hx hb dX9_isBall_85 (by decide) ?_
                    refine lv_goto (tgt := 90) hx hb dX9_isBall_86 (by decide) ?_
                    exact g_zret C0 G hr dX9_isBall_90 rfl (Nat.le_of_ble_eq_true rfl) (Nat.le_of_ble_eq_true rfl) (by refine ⟨?_, rfl⟩; exact Or.inl ⟨rfl, (hBallE hb_bo).mpr (by have i0 : (0 : Int32).toInt = 0 := rfl; have i1 : (1 : Int32).toInt = 1 := rfl; have i2 : (2 : Int32).toInt = 2 := rfl; have i3 : (3 : Int32).toInt = 3 := rfl; have i4 : (4 : Int32).toInt = 4 := rfl; have i6 : (6 : Int32).toInt = 6 := rfl; simp only [Int32.le_iff_toInt_le, Int32.lt_iff_toInt_lt, ← Int32.toInt_inj] at *; omega)⟩)
              · refine lv_iload_n hx hb dX9_isBall_69 rfl (lv_at hl 1 rfl) ?_
                refine lv_iconst (v := 2) hx hb dX9_isBall_70 (by decide) ?_
                refine lv_icmp_ne (tgt := 89) hx hb dX9_isBall_71 (by decide) (fun c35 => ?_) (fun c35 => ?_)
                · refine lv_iconst (v := 0) hx hb dX9_isBall_89 (by decide) ?_
                  exact g_zret C0 G hr dX9_isBall_90 rfl (Nat.le_of_ble_eq_true rfl) (Nat.le_of_ble_eq_true rfl) (by refine ⟨?_, rfl⟩; exact Or.inr ⟨rfl, fun q => absurd ((hBallE hb_bo).mp q) (by have i0 : (0 : Int32).toInt = 0 := rfl; have i1 : (1 : Int32).toInt = 1 := rfl; have i2 : (2 : Int32).toInt = 2 := rfl; have i3 : (3 : Int32).toInt = 3 := rfl; have i4 : (4 : Int32).toInt = 4 := rfl; have i6 : (6 : Int32).toInt = 6 := rfl; simp only [Int32.le_iff_toInt_le, Int32.lt_iff_toInt_lt, ← Int32.toInt_inj] at *; omega)⟩)
                · refine lv_iload_n hx hb dX9_isBall_74 rfl (lv_at hl 2 rfl) ?_
                  refine lv_iconst (v := 4) hx hb dX9_isBall_75 (by decide) ?_
                  refine lv_icmp_eq (tgt := 85) hx hb dX9_isBall_76 (by decide) (fun c36 => ?_) (fun c36 => ?_)
                  · refine lv_iconst (v := 1) hx hb dX9_isBall_85 (by decide) ?_
                    refine lv_goto (tgt := 90) hx hb dX9_isBall_86 (by decide) ?_
                    exact g_zret C0 G hr dX9_isBall_90 rfl (Nat.le_of_ble_eq_true rfl) (Nat.le_of_ble_eq_true rfl) (by refine ⟨?_, rfl⟩; exact Or.inl ⟨rfl, (hBallE hb_bo).mpr (by have i0 : (0 : Int32).toInt = 0 := rfl; have i1 : (1 : Int32).toInt = 1 := rfl; have i2 : (2 : Int32).toInt = 2 := rfl; have i3 : (3 : Int32).toInt = 3 := rfl; have i4 : (4 : Int32).toInt = 4 := rfl; have i6 : (6 : Int32).toInt = 6 := rfl; simp only [Int32.le_iff_toInt_le, Int32.lt_iff_toInt_lt, ← Int32.toInt_inj] at *; omega)⟩)
                  · refine lv_iload_n hx hb dX9_isBall_79 rfl (lv_at hl 2 rfl) ?_
                    refine lv_bipush (v := 6) hx hb dX9_isBall_80 (by decide) ?_
                    refine lv_icmp_ne (tgt := 89) hx hb dX9_isBall_82 (by decide) (fun c37 => ?_) (fun c37 => ?_)
                    · refine lv_iconst (v := 0) hx hb dX9_isBall_89 (by decide) ?_
                      exact g_zret C0 G hr dX9_isBall_90 rfl (Nat.le_of_ble_eq_true rfl) (Nat.le_of_ble_eq_true rfl) (by refine ⟨?_, rfl⟩; exact Or.inr ⟨rfl, fun q => absurd ((hBallE hb_bo).mp q) (by have i0 : (0 : Int32).toInt = 0 := rfl; have i1 : (1 : Int32).toInt = 1 := rfl; have i2 : (2 : Int32).toInt = 2 := rfl; have i3 : (3 : Int32).toInt = 3 := rfl; have i4 : (4 : Int32).toInt = 4 := rfl; have i6 : (6 : Int32).toInt = 6 := rfl; simp only [Int32.le_iff_toInt_le, Int32.lt_iff_toInt_lt, ← Int32.toInt_inj] at *; omega)⟩)
                    · refine lv_iconst (v := 1) hx hb dX9_isBall_85 (by decide) ?_
                      refine lv_goto (tgt := 90) hx hb dX9_isBall_86 (by decide) ?_
                      exact g_zret C0 G hr dX9_isBall_90 rfl (Nat.le_of_ble_eq_true rfl) (Nat.le_of_ble_eq_true rfl) (by refine ⟨?_, rfl⟩; exact Or.inl ⟨rfl, (hBallE hb_bo).mpr (by have i0 : (0 : Int32).toInt = 0 := rfl; have i1 : (1 : Int32).toInt = 1 := rfl; have i2 : (2 : Int32).toInt = 2 := rfl; have i3 : (3 : Int32).toInt = 3 := rfl; have i4 : (4 : Int32).toInt = 4 := rfl; have i6 : (6 : Int32).toInt = 6 := rfl; simp only [Int32.le_iff_toInt_le, Int32.lt_iff_toInt_lt, ← Int32.toInt_inj] at *; omega)⟩)
          · refine lv_if_eq (tgt := 55) hx hb dX9_isBall_48 (by decide) (fun _ => ?_) (fun c38 => absurd (by decide) c38)
            refine lv_iconst (v := 0) hx hb dX9_isBall_55 (by decide) ?_
            refine lv_istore_n (lv' := [(3, .int 0), (0, .int ki), (1, .int ru), (2, .int bo)]) hx hb dX9_isBall_56 rfl hl (by decide) rfl (fun ls hl => ?_)
            refine lv_iload_n hx hb dX9_isBall_57 rfl (lv_at hl 0 rfl) ?_
            refine lv_if_eq (tgt := 89) hx hb dX9_isBall_58 (by decide) (fun _ => ?_) (fun c39 => absurd (by decide) c39)
            refine lv_iconst (v := 0) hx hb dX9_isBall_89 (by decide) ?_
            exact g_zret C0 G hr dX9_isBall_90 rfl (Nat.le_of_ble_eq_true rfl) (Nat.le_of_ble_eq_true rfl) (by refine ⟨?_, rfl⟩; exact Or.inr ⟨rfl, fun q => absurd ((hBallE hb_bo).mp q) (by have i0 : (0 : Int32).toInt = 0 := rfl; have i1 : (1 : Int32).toInt = 1 := rfl; have i2 : (2 : Int32).toInt = 2 := rfl; have i3 : (3 : Int32).toInt = 3 := rfl; have i4 : (4 : Int32).toInt = 4 := rfl; have i6 : (6 : Int32).toInt = 6 := rfl; simp only [Int32.le_iff_toInt_le, Int32.lt_iff_toInt_lt, ← Int32.toInt_inj] at *; omega)⟩)
        · refine lv_if_eq (tgt := 55) hx hb dX9_isBall_39 (by decide) (fun _ => ?_) (fun c40 => absurd (by decide) c40)
          refine lv_iconst (v := 0) hx hb dX9_isBall_55 (by decide) ?_
          refine lv_istore_n (lv' := [(3, .int 0), (0, .int ki), (1, .int ru), (2, .int bo)]) hx hb dX9_isBall_56 rfl hl (by decide) rfl (fun ls hl => ?_)
          refine lv_iload_n hx hb dX9_isBall_57 rfl (lv_at hl 0 rfl) ?_
          refine lv_if_eq (tgt := 89) hx hb dX9_isBall_58 (by decide) (fun _ => ?_) (fun c41 => absurd (by decide) c41)
          refine lv_iconst (v := 0) hx hb dX9_isBall_89 (by decide) ?_
          exact g_zret C0 G hr dX9_isBall_90 rfl (Nat.le_of_ble_eq_true rfl) (Nat.le_of_ble_eq_true rfl) (by refine ⟨?_, rfl⟩; exact Or.inr ⟨rfl, fun q => absurd ((hBallE hb_bo).mp q) (by have i0 : (0 : Int32).toInt = 0 := rfl; have i1 : (1 : Int32).toInt = 1 := rfl; have i2 : (2 : Int32).toInt = 2 := rfl; have i3 : (3 : Int32).toInt = 3 := rfl; have i4 : (4 : Int32).toInt = 4 := rfl; have i6 : (6 : Int32).toInt = 6 := rfl; simp only [Int32.le_iff_toInt_le, Int32.lt_iff_toInt_lt, ← Int32.toInt_inj] at *; omega)⟩)
      · refine lv_iload_n hx hb dX9_isBall_24 rfl (lv_at hl 1 rfl) ?_
        refine lv_iconst (v := 0) hx hb dX9_isBall_25 (by decide) ?_
        refine lv_iconst (v := 4) hx hb dX9_isBall_26 (by decide) ?_
        refine g_cI C0 G (g_runS C0 G (rest := []) (k_X9_isIn hfl ru 0 4) hY_X9_isIn mm_X9_76 ms_X9_isIn ⟨(Nat.le_of_ble_eq_true rfl), (Nat.le_of_ble_eq_true rfl)⟩ rfl hl.1 rfl (Nat.le_of_ble_eq_true rfl) dX9_isBall_27 ⟨(Nat.le_of_ble_eq_true rfl), (Nat.le_of_ble_eq_true rfl)⟩) (kx_no rfl) (fun r44 u43 H locs hp42 G => ?_)
        obtain ⟨b45, eu43⟩ := hp42
        rw [eu43] at G
        rcases b45 with ⟨rfl, c46⟩ | ⟨rfl, c46⟩
        · refine lv_goto (tgt := 56) hx hb dX9_isBall_30 (by decide) ?_
          refine lv_istore_n (lv' := [(3, .int 1), (0, .int ki), (1, .int ru), (2, .int bo)]) hx hb dX9_isBall_56 rfl hl (by decide) rfl (fun ls hl => ?_)
          refine lv_iload_n hx hb dX9_isBall_57 rfl (lv_at hl 0 rfl) ?_
          refine lv_if_eq (tgt := 89) hx hb dX9_isBall_58 (by decide) (fun c47 => absurd c47 (by decide)) (fun _ => ?_)
          refine lv_iload_n hx hb dX9_isBall_61 rfl (lv_at hl 3 rfl) ?_
          refine lv_if_eq (tgt := 85) hx hb dX9_isBall_62 (by decide) (fun c48 => ?_) (fun c48 => ?_)
          · refine lv_iconst (v := 1) hx hb dX9_isBall_85 (by decide) ?_
            refine lv_goto (tgt := 90) hx hb dX9_isBall_86 (by decide) ?_
            exact g_zret C0 G hr dX9_isBall_90 rfl (Nat.le_of_ble_eq_true rfl) (Nat.le_of_ble_eq_true rfl) (by refine ⟨?_, rfl⟩; exact Or.inl ⟨rfl, (hBallE hb_bo).mpr (by have i0 : (0 : Int32).toInt = 0 := rfl; have i1 : (1 : Int32).toInt = 1 := rfl; have i2 : (2 : Int32).toInt = 2 := rfl; have i3 : (3 : Int32).toInt = 3 := rfl; have i4 : (4 : Int32).toInt = 4 := rfl; have i6 : (6 : Int32).toInt = 6 := rfl; simp only [Int32.le_iff_toInt_le, Int32.lt_iff_toInt_lt, ← Int32.toInt_inj] at *; omega)⟩)
          · refine lv_iload_n hx hb dX9_isBall_65 rfl (lv_at hl 1 rfl) ?_
            refine lv_if_eq (tgt := 74) hx hb dX9_isBall_66 (by decide) (fun c49 => ?_) (fun c49 => ?_)
            · refine lv_iload_n hx hb dX9_isBall_74 rfl (lv_at hl 2 rfl) ?_
              refine lv_iconst (v := 4) hx hb dX9_isBall_75 (by decide) ?_
              refine lv_icmp_eq (tgt := 85) hx hb dX9_isBall_76 (by decide) (fun c50 => ?_) (fun c50 => ?_)
              · refine lv_iconst (v := 1) hx hb dX9_isBall_85 (by decide) ?_
                refine lv_goto (tgt := 90) hx hb dX9_isBall_86 (by decide) ?_
                exact g_zret C0 G hr dX9_isBall_90 rfl (Nat.le_of_ble_eq_true rfl) (Nat.le_of_ble_eq_true rfl) (by refine ⟨?_, rfl⟩; exact Or.inl ⟨rfl, (hBallE hb_bo).mpr (by have i0 : (0 : Int32).toInt = 0 := rfl; have i1 : (1 : Int32).toInt = 1 := rfl; have i2 : (2 : Int32).toInt = 2 := rfl; have i3 : (3 : Int32).toInt = 3 := rfl; have i4 : (4 : Int32).toInt = 4 := rfl; have i6 : (6 : Int32).toInt = 6 := rfl; simp only [Int32.le_iff_toInt_le, Int32.lt_iff_toInt_lt, ← Int32.toInt_inj] at *; omega)⟩)
              · refine lv_iload_n hx hb dX9_isBall_79 rfl (lv_at hl 2 rfl) ?_
                refine lv_bipush (v := 6) hx hb dX9_isBall_80 (by decide) ?_
                refine lv_icmp_ne (tgt := 89) hx hb dX9_isBall_82 (by decide) (fun c51 => ?_) (fun c51 => ?_)
                · refine lv_iconst (v := 0) hx hb dX9_isBall_89 (by decide) ?_
                  exact g_zret C0 G hr dX9_isBall_90 rfl (Nat.le_of_ble_eq_true rfl) (Nat.le_of_ble_eq_true rfl) (by refine ⟨?_, rfl⟩; exact Or.inr ⟨rfl, fun q => absurd ((hBallE hb_bo).mp q) (by have i0 : (0 : Int32).toInt = 0 := rfl; have i1 : (1 : Int32).toInt = 1 := rfl; have i2 : (2 : Int32).toInt = 2 := rfl; have i3 : (3 : Int32).toInt = 3 := rfl; have i4 : (4 : Int32).toInt = 4 := rfl; have i6 : (6 : Int32).toInt = 6 := rfl; simp only [Int32.le_iff_toInt_le, Int32.lt_iff_toInt_lt, ← Int32.toInt_inj] at *; omega)⟩)
                · refine lv_iconst (v := 1) hx hb dX9_isBall_85 (by decide) ?_
                  refine lv_goto (tgt := 90) hx hb dX9_isBall_86 (by decide) ?_
                  exact g_zret C0 G hr dX9_isBall_90 rfl (Nat.le_of_ble_eq_true rfl) (Nat.le_of_ble_eq_true rfl) (by refine ⟨?_, rfl⟩; exact Or.inl ⟨rfl, (hBallE hb_bo).mpr (by have i0 : (0 : Int32).toInt = 0 := rfl; have i1 : (1 : Int32).toInt = 1 := rfl; have i2 : (2 : Int32).toInt = 2 := rfl; have i3 : (3 : Int32).toInt = 3 := rfl; have i4 : (4 : Int32).toInt = 4 := rfl; have i6 : (6 : Int32).toInt = 6 := rfl; simp only [Int32.le_iff_toInt_le, Int32.lt_iff_toInt_lt, ← Int32.toInt_inj] at *; omega)⟩)
            · refine lv_iload_n hx hb dX9_isBall_69 rfl (lv_at hl 1 rfl) ?_
              refine lv_iconst (v := 2) hx hb dX9_isBall_70 (by decide) ?_
              refine lv_icmp_ne (tgt := 89) hx hb dX9_isBall_71 (by decide) (fun c52 => ?_) (fun c52 => ?_)
              · refine lv_iconst (v := 0) hx hb dX9_isBall_89 (by decide) ?_
                exact g_zret C0 G hr dX9_isBall_90 rfl (Nat.le_of_ble_eq_true rfl) (Nat.le_of_ble_eq_true rfl) (by refine ⟨?_, rfl⟩; exact Or.inr ⟨rfl, fun q => absurd ((hBallE hb_bo).mp q) (by have i0 : (0 : Int32).toInt = 0 := rfl; have i1 : (1 : Int32).toInt = 1 := rfl; have i2 : (2 : Int32).toInt = 2 := rfl; have i3 : (3 : Int32).toInt = 3 := rfl; have i4 : (4 : Int32).toInt = 4 := rfl; have i6 : (6 : Int32).toInt = 6 := rfl; simp only [Int32.le_iff_toInt_le, Int32.lt_iff_toInt_lt, ← Int32.toInt_inj] at *; omega)⟩)
              · refine lv_iload_n hx hb dX9_isBall_74 rfl (lv_at hl 2 rfl) ?_
                refine lv_iconst (v := 4) hx hb dX9_isBall_75 (by decide) ?_
                refine lv_icmp_eq (tgt := 85) hx hb dX9_isBall_76 (by decide) (fun c53 => ?_) (fun c53 => ?_)
                · refine lv_iconst (v := 1) hx hb dX9_isBall_85 (by decide) ?_
                  refine lv_goto (tgt := 90) hx hb dX9_isBall_86 (by decide) ?_
                  exact g_zret C0 G hr dX9_isBall_90 rfl (Nat.le_of_ble_eq_true rfl) (Nat.le_of_ble_eq_true rfl) (by refine ⟨?_, rfl⟩; exact Or.inl ⟨rfl, (hBallE hb_bo).mpr (by have i0 : (0 : Int32).toInt = 0 := rfl; have i1 : (1 : Int32).toInt = 1 := rfl; have i2 : (2 : Int32).toInt = 2 := rfl; have i3 : (3 : Int32).toInt = 3 := rfl; have i4 : (4 : Int32).toInt = 4 := rfl; have i6 : (6 : Int32).toInt = 6 := rfl; simp only [Int32.le_iff_toInt_le, Int32.lt_iff_toInt_lt, ← Int32.toInt_inj] at *; omega)⟩)
                · refine lv_iload_n hx hb dX9_isBall_79 rfl (lv_at hl 2 rfl) ?_
                  refine lv_bipush (v := 6) hx hb dX9_isBall_80 (by decide) ?_
                  refine lv_icmp_ne (tgt := 89) hx hb dX9_isBall_82 (by decide) (fun c54 => ?_) (fun c54 => ?_)
                  · refine lv_iconst (v := 0) hx hb dX9_isBall_89 (by decide) ?_
                    exact g_zret C0 G hr dX9_isBall_90 rfl (Nat.le_of_ble_eq_true rfl) (Nat.le_of_ble_eq_true rfl) (by refine ⟨?_, rfl⟩; exact Or.inr ⟨rfl, fun q => absurd ((hBallE hb_bo).mp q) (by have i0 : (0 : Int32).toInt = 0 := rfl; have i1 : (1 : Int32).toInt = 1 := rfl; have i2 : (2 : Int32).toInt = 2 := rfl; have i3 : (3 : Int32).toInt = 3 := rfl; have i4 : (4 : Int32).toInt = 4 := rfl; have i6 : (6 : Int32).toInt = 6 := rfl; simp only [Int32.le_iff_toInt_le, Int32.lt_iff_toInt_lt, ← Int32.toInt_inj] at *; omega)⟩)
                  · refine lv_iconst (v := 1) hx hb dX9_isBall_85 (by decide) ?_
                    refine lv_goto (tgt := 90) hx hb dX9_isBall_86 (by decide) ?_
                    exact g_zret C0 G hr dX9_isBall_90 rfl (Nat.le_of_ble_eq_true rfl) (Nat.le_of_ble_eq_true rfl) (by refine ⟨?_, rfl⟩; exact Or.inl ⟨rfl, (hBallE hb_bo).mpr (by have i0 : (0 : Int32).toInt = 0 := rfl; have i1 : (1 : Int32).toInt = 1 := rfl; have i2 : (2 : Int32).toInt = 2 := rfl; have i3 : (3 : Int32).toInt = 3 := rfl; have i4 : (4 : Int32).toInt = 4 := rfl; have i6 : (6 : Int32).toInt = 6 := rfl; simp only [Int32.le_iff_toInt_le, Int32.lt_iff_toInt_lt, ← Int32.toInt_inj] at *; omega)⟩)
        · refine lv_goto (tgt := 56) hx hb dX9_isBall_30 (by decide) ?_
          refine lv_istore_n (lv' := [(3, .int 0), (0, .int ki), (1, .int ru), (2, .int bo)]) hx hb dX9_isBall_56 rfl hl (by decide) rfl (fun ls hl => ?_)
          refine lv_iload_n hx hb dX9_isBall_57 rfl (lv_at hl 0 rfl) ?_
          refine lv_if_eq (tgt := 89) hx hb dX9_isBall_58 (by decide) (fun _ => ?_) (fun c55 => absurd (by decide) c55)
          refine lv_iconst (v := 0) hx hb dX9_isBall_89 (by decide) ?_
          exact g_zret C0 G hr dX9_isBall_90 rfl (Nat.le_of_ble_eq_true rfl) (Nat.le_of_ble_eq_true rfl) (by refine ⟨?_, rfl⟩; exact Or.inr ⟨rfl, fun q => absurd ((hBallE hb_bo).mp q) (by have i0 : (0 : Int32).toInt = 0 := rfl; have i1 : (1 : Int32).toInt = 1 := rfl; have i2 : (2 : Int32).toInt = 2 := rfl; have i3 : (3 : Int32).toInt = 3 := rfl; have i4 : (4 : Int32).toInt = 4 := rfl; have i6 : (6 : Int32).toInt = 6 := rfl; simp only [Int32.le_iff_toInt_le, Int32.lt_iff_toInt_lt, ← Int32.toInt_inj] at *; omega)⟩)
    · refine lv_iload_n hx hb dX9_isBall_9 rfl (lv_at hl 1 rfl) ?_
      refine lv_iconst (v := 0) hx hb dX9_isBall_10 (by decide) ?_
      refine lv_bipush (v := 6) hx hb dX9_isBall_11 (by decide) ?_
      refine g_cI C0 G (g_runS C0 G (rest := []) (k_X9_isIn hfl ru 0 6) hY_X9_isIn mm_X9_76 ms_X9_isIn ⟨(Nat.le_of_ble_eq_true rfl), (Nat.le_of_ble_eq_true rfl)⟩ rfl hl.1 rfl (Nat.le_of_ble_eq_true rfl) dX9_isBall_13 ⟨(Nat.le_of_ble_eq_true rfl), (Nat.le_of_ble_eq_true rfl)⟩) (kx_no rfl) (fun r58 u57 H locs hp56 G => ?_)
      obtain ⟨b59, eu57⟩ := hp56
      rw [eu57] at G
      rcases b59 with ⟨rfl, c60⟩ | ⟨rfl, c60⟩
      · refine lv_goto (tgt := 56) hx hb dX9_isBall_16 (by decide) ?_
        refine lv_istore_n (lv' := [(3, .int 1), (0, .int ki), (1, .int ru), (2, .int bo)]) hx hb dX9_isBall_56 rfl hl (by decide) rfl (fun ls hl => ?_)
        refine lv_iload_n hx hb dX9_isBall_57 rfl (lv_at hl 0 rfl) ?_
        refine lv_if_eq (tgt := 89) hx hb dX9_isBall_58 (by decide) (fun c61 => absurd c61 (by decide)) (fun _ => ?_)
        refine lv_iload_n hx hb dX9_isBall_61 rfl (lv_at hl 3 rfl) ?_
        refine lv_if_eq (tgt := 85) hx hb dX9_isBall_62 (by decide) (fun c62 => ?_) (fun c62 => ?_)
        · refine lv_iconst (v := 1) hx hb dX9_isBall_85 (by decide) ?_
          refine lv_goto (tgt := 90) hx hb dX9_isBall_86 (by decide) ?_
          exact g_zret C0 G hr dX9_isBall_90 rfl (Nat.le_of_ble_eq_true rfl) (Nat.le_of_ble_eq_true rfl) (by refine ⟨?_, rfl⟩; exact Or.inl ⟨rfl, (hBallE hb_bo).mpr (by have i0 : (0 : Int32).toInt = 0 := rfl; have i1 : (1 : Int32).toInt = 1 := rfl; have i2 : (2 : Int32).toInt = 2 := rfl; have i3 : (3 : Int32).toInt = 3 := rfl; have i4 : (4 : Int32).toInt = 4 := rfl; have i6 : (6 : Int32).toInt = 6 := rfl; simp only [Int32.le_iff_toInt_le, Int32.lt_iff_toInt_lt, ← Int32.toInt_inj] at *; omega)⟩)
        · refine lv_iload_n hx hb dX9_isBall_65 rfl (lv_at hl 1 rfl) ?_
          refine lv_if_eq (tgt := 74) hx hb dX9_isBall_66 (by decide) (fun c63 => ?_) (fun c63 => ?_)
          · refine lv_iload_n hx hb dX9_isBall_74 rfl (lv_at hl 2 rfl) ?_
            refine lv_iconst (v := 4) hx hb dX9_isBall_75 (by decide) ?_
            refine lv_icmp_eq (tgt := 85) hx hb dX9_isBall_76 (by decide) (fun c64 => ?_) (fun c64 => ?_)
            · refine lv_iconst (v := 1) hx hb dX9_isBall_85 (by decide) ?_
              refine lv_goto (tgt := 90) hx hb dX9_isBall_86 (by decide) ?_
              exact g_zret C0 G hr dX9_isBall_90 rfl (Nat.le_of_ble_eq_true rfl) (Nat.le_of_ble_eq_true rfl) (by refine ⟨?_, rfl⟩; exact Or.inl ⟨rfl, (hBallE hb_bo).mpr (by have i0 : (0 : Int32).toInt = 0 := rfl; have i1 : (1 : Int32).toInt = 1 := rfl; have i2 : (2 : Int32).toInt = 2 := rfl; have i3 : (3 : Int32).toInt = 3 := rfl; have i4 : (4 : Int32).toInt = 4 := rfl; have i6 : (6 : Int32).toInt = 6 := rfl; simp only [Int32.le_iff_toInt_le, Int32.lt_iff_toInt_lt, ← Int32.toInt_inj] at *; omega)⟩)
            · refine lv_iload_n hx hb dX9_isBall_79 rfl (lv_at hl 2 rfl) ?_
              refine lv_bipush (v := 6) hx hb dX9_isBall_80 (by decide) ?_
              refine lv_icmp_ne (tgt := 89) hx hb dX9_isBall_82 (by decide) (fun c65 => ?_) (fun c65 => ?_)
              · refine lv_iconst (v := 0) hx hb dX9_isBall_89 (by decide) ?_
                exact g_zret C0 G hr dX9_isBall_90 rfl (Nat.le_of_ble_eq_true rfl) (Nat.le_of_ble_eq_true rfl) (by refine ⟨?_, rfl⟩; exact Or.inr ⟨rfl, fun q => absurd ((hBallE hb_bo).mp q) (by have i0 : (0 : Int32).toInt = 0 := rfl; have i1 : (1 : Int32).toInt = 1 := rfl; have i2 : (2 : Int32).toInt = 2 := rfl; have i3 : (3 : Int32).toInt = 3 := rfl; have i4 : (4 : Int32).toInt = 4 := rfl; have i6 : (6 : Int32).toInt = 6 := rfl; simp only [Int32.le_iff_toInt_le, Int32.lt_iff_toInt_lt, ← Int32.toInt_inj] at *; omega)⟩)
              · refine lv_iconst (v := 1) hx hb dX9_isBall_85 (by decide) ?_
                refine lv_goto (tgt := 90) hx hb dX9_isBall_86 (by decide) ?_
                exact g_zret C0 G hr dX9_isBall_90 rfl (Nat.le_of_ble_eq_true rfl) (Nat.le_of_ble_eq_true rfl) (by refine ⟨?_, rfl⟩; exact Or.inl ⟨rfl, (hBallE hb_bo).mpr (by have i0 : (0 : Int32).toInt = 0 := rfl; have i1 : (1 : Int32).toInt = 1 := rfl; have i2 : (2 : Int32).toInt = 2 := rfl; have i3 : (3 : Int32).toInt = 3 := rfl; have i4 : (4 : Int32).toInt = 4 := rfl; have i6 : (6 : Int32).toInt = 6 := rfl; simp only [Int32.le_iff_toInt_le, Int32.lt_iff_toInt_lt, ← Int32.toInt_inj] at *; omega)⟩)
          · refine lv_iload_n hx hb dX9_isBall_69 rfl (lv_at hl 1 rfl) ?_
            refine lv_iconst (v := 2) hx hb dX9_isBall_70 (by decide) ?_
            refine lv_icmp_ne (tgt := 89) hx hb dX9_isBall_71 (by decide) (fun c66 => ?_) (fun c66 => ?_)
            · refine lv_iconst (v := 0) hx hb dX9_isBall_89 (by decide) ?_
              exact g_zret C0 G hr dX9_isBall_90 rfl (Nat.le_of_ble_eq_true rfl) (Nat.le_of_ble_eq_true rfl) (by refine ⟨?_, rfl⟩; exact Or.inr ⟨rfl, fun q => absurd ((hBallE hb_bo).mp q) (by have i0 : (0 : Int32).toInt = 0 := rfl; have i1 : (1 : Int32).toInt = 1 := rfl; have i2 : (2 : Int32).toInt = 2 := rfl; have i3 : (3 : Int32).toInt = 3 := rfl; have i4 : (4 : Int32).toInt = 4 := rfl; have i6 : (6 : Int32).toInt = 6 := rfl; simp only [Int32.le_iff_toInt_le, Int32.lt_iff_toInt_lt, ← Int32.toInt_inj] at *; omega)⟩)
            · refine lv_iload_n hx hb dX9_isBall_74 rfl (lv_at hl 2 rfl) ?_
              refine lv_iconst (v := 4) hx hb dX9_isBall_75 (by decide) ?_
              refine lv_icmp_eq (tgt := 85) hx hb dX9_isBall_76 (by decide) (fun c67 => ?_) (fun c67 => ?_)
              · refine lv_iconst (v := 1) hx hb dX9_isBall_85 (by decide) ?_
                refine lv_goto (tgt := 90) hx hb dX9_isBall_86 (by decide) ?_
                exact g_zret C0 G hr dX9_isBall_90 rfl (Nat.le_of_ble_eq_true rfl) (Nat.le_of_ble_eq_true rfl) (by refine ⟨?_, rfl⟩; exact Or.inl ⟨rfl, (hBallE hb_bo).mpr (by have i0 : (0 : Int32).toInt = 0 := rfl; have i1 : (1 : Int32).toInt = 1 := rfl; have i2 : (2 : Int32).toInt = 2 := rfl; have i3 : (3 : Int32).toInt = 3 := rfl; have i4 : (4 : Int32).toInt = 4 := rfl; have i6 : (6 : Int32).toInt = 6 := rfl; simp only [Int32.le_iff_toInt_le, Int32.lt_iff_toInt_lt, ← Int32.toInt_inj] at *; omega)⟩)
              · refine lv_iload_n hx hb dX9_isBall_79 rfl (lv_at hl 2 rfl) ?_
                refine lv_bipush (v := 6) hx hb dX9_isBall_80 (by decide) ?_
                refine lv_icmp_ne (tgt := 89) hx hb dX9_isBall_82 (by decide) (fun c68 => ?_) (fun c68 => ?_)
                · refine lv_iconst (v := 0) hx hb dX9_isBall_89 (by decide) ?_
                  exact g_zret C0 G hr dX9_isBall_90 rfl (Nat.le_of_ble_eq_true rfl) (Nat.le_of_ble_eq_true rfl) (by refine ⟨?_, rfl⟩; exact Or.inr ⟨rfl, fun q => absurd ((hBallE hb_bo).mp q) (by have i0 : (0 : Int32).toInt = 0 := rfl; have i1 : (1 : Int32).toInt = 1 := rfl; have i2 : (2 : Int32).toInt = 2 := rfl; have i3 : (3 : Int32).toInt = 3 := rfl; have i4 : (4 : Int32).toInt = 4 := rfl; have i6 : (6 : Int32).toInt = 6 := rfl; simp only [Int32.le_iff_toInt_le, Int32.lt_iff_toInt_lt, ← Int32.toInt_inj] at *; omega)⟩)
                · refine lv_iconst (v := 1) hx hb dX9_isBall_85 (by decide) ?_
                  refine lv_goto (tgt := 90) hx hb dX9_isBall_86 (by decide) ?_
                  exact g_zret C0 G hr dX9_isBall_90 rfl (Nat.le_of_ble_eq_true rfl) (Nat.le_of_ble_eq_true rfl) (by refine ⟨?_, rfl⟩; exact Or.inl ⟨rfl, (hBallE hb_bo).mpr (by have i0 : (0 : Int32).toInt = 0 := rfl; have i1 : (1 : Int32).toInt = 1 := rfl; have i2 : (2 : Int32).toInt = 2 := rfl; have i3 : (3 : Int32).toInt = 3 := rfl; have i4 : (4 : Int32).toInt = 4 := rfl; have i6 : (6 : Int32).toInt = 6 := rfl; simp only [Int32.le_iff_toInt_le, Int32.lt_iff_toInt_lt, ← Int32.toInt_inj] at *; omega)⟩)
      · refine lv_goto (tgt := 56) hx hb dX9_isBall_16 (by decide) ?_
        refine lv_istore_n (lv' := [(3, .int 0), (0, .int ki), (1, .int ru), (2, .int bo)]) hx hb dX9_isBall_56 rfl hl (by decide) rfl (fun ls hl => ?_)
        refine lv_iload_n hx hb dX9_isBall_57 rfl (lv_at hl 0 rfl) ?_
        refine lv_if_eq (tgt := 89) hx hb dX9_isBall_58 (by decide) (fun _ => ?_) (fun c69 => absurd (by decide) c69)
        refine lv_iconst (v := 0) hx hb dX9_isBall_89 (by decide) ?_
        exact g_zret C0 G hr dX9_isBall_90 rfl (Nat.le_of_ble_eq_true rfl) (Nat.le_of_ble_eq_true rfl) (by refine ⟨?_, rfl⟩; exact Or.inr ⟨rfl, fun q => absurd ((hBallE hb_bo).mp q) (by have i0 : (0 : Int32).toInt = 0 := rfl; have i1 : (1 : Int32).toInt = 1 := rfl; have i2 : (2 : Int32).toInt = 2 := rfl; have i3 : (3 : Int32).toInt = 3 := rfl; have i4 : (4 : Int32).toInt = 4 := rfl; have i6 : (6 : Int32).toInt = 6 := rfl; simp only [Int32.le_iff_toInt_le, Int32.lt_iff_toInt_lt, ← Int32.toInt_inj] at *; omega)⟩)
set_option maxRecDepth 100000 in
theorem k_X9_ball {l : Launch} (hfl : l.stackTraces = false) {D : va_G} {cy : Nat → ClassId} {f : Hf} {sz : Nat} {m v im kp pa de ide tx pt so mo wh pf : Nat} (ki ru bo : Int32) (h_m : f m = some (.inr (11, [.int 0, .int 0, .ref v, .ref im, .ref kp, .ref pa, .ref de, .ref ide, .int 0, .int 0, .ref tx, .int 0, .int (-1), .int (-1), .ref pt, .int 0, .int 0, .int 0, .ref so, .ref mo, .ref wh, .ref pf]))) (h_v : f v = some (.inl (cy 0, 6441, .inl (fun _ => 0)))) (hb_bo : bo = 0 ∨ bo = 1) : hMet l yX9_ball cX9_ball 4 (some .int) { frames := 5, cells := 0, slots := 0, locals := 122 } D (hTy cy) f sz [.ref m, .int ki, .int ru, .int bo] (hQi (fun r u => (((0 ≤ ki ∧ ki ≤ 4) ∧ ((if ki = 3 ∨ ki = 4 then 1 else 0) ≤ ru ∧ ru ≤ (if ki = 0 ∨ ki = 2 then 6 else 4)) ∧ (bo = 0 ∨ ((ki = 0 ∨ ki = 2) ∧ (ru = 4 ∨ ru = 6)))) ∧ hT u m 2) ∨ ((¬ ((0 ≤ ki ∧ ki ≤ 4) ∧ ((if ki = 3 ∨ ki = 4 then 1 else 0) ≤ ru ∧ ru ≤ (if ki = 0 ∨ ki = 2 then 6 else 4)) ∧ (bo = 0 ∨ ((ki = 0 ∨ ki = 2) ∧ (ru = 4 ∨ ru = 6))))) ∧ hT u m 1)) D f sz) hNo := by
  refine h_enter (by decide) hfl (Nat.le_of_ble_eq_true rfl) ?_
  intro p9 e9 s9 m9 b9 t9 c9 hsz C0 hr hnm G ls hl
  have hx := C0.1.1
  have hb := C0.1.2.1
  have hl : lv_has ls 4 [(0, .ref m), (1, .int ki), (2, .int ru), (3, .int bo)] := hl
  refine lv_aload_n hx hb dX9_ball_0 rfl (lv_at hl 0 rfl) ?_
  refine lv_iload_n hx hb dX9_ball_1 rfl (lv_at hl 1 rfl) ?_
  refine lv_iload_n hx hb dX9_ball_2 rfl (lv_at hl 2 rfl) ?_
  refine lv_iload_n hx hb dX9_ball_3 rfl (lv_at hl 3 rfl) ?_
  refine g_cI C0 G (g_runS C0 G (rest := [.ref m]) (k_X9_isBall hfl ki ru bo hb_bo) hY_X9_isBall mm_X9_183 ms_X9_isBall ⟨(Nat.le_of_ble_eq_true rfl), (Nat.le_of_ble_eq_true rfl)⟩ rfl hl.1 rfl (Nat.le_of_ble_eq_true rfl) dX9_ball_4 ⟨(Nat.le_of_ble_eq_true rfl), (Nat.le_of_ble_eq_true rfl)⟩) (kx_no rfl) (fun r3 u2 H locs hp1 G => ?_)
  obtain ⟨b4, eu2⟩ := hp1
  rw [eu2] at G
  rcases b4 with ⟨rfl, c5⟩ | ⟨rfl, c5⟩
  · refine lv_if_eq (tgt := 14) hx hb dX9_ball_7 (by decide) (fun c6 => absurd c6 (by decide)) (fun _ => ?_)
    refine lv_iconst (v := 0) hx hb dX9_ball_10 (by decide) ?_
    refine lv_goto (tgt := 15) hx hb dX9_ball_11 (by decide) ?_
    refine g_put C0 G h_m rfl hiX9 tyX9 tyX9_ok nmX9 0 (by decide) mf_X9_55 rfl rfl rfl rfl (Nat.le_of_ble_eq_true rfl) dX9_ball_15 (fun H locs f7 hf7 G => ?_)
    have k8 : f7 m = some (.inr (11, [.int 0, .int 0, .ref v, .ref im, .ref kp, .ref pa, .ref de, .ref ide, .int 0, .int 0, .ref tx, .int 0, .int (-1), .int (-1), .ref pt, .int 0, .int 0, .int 0, .ref so, .ref mo, .ref wh, .ref pf])) := hus hf7
    refine lv_aload_n hx hb dX9_ball_18 rfl (lv_at hl 0 rfl) ?_
    refine g_get C0 G k8 rfl hiX9 0 (by decide) mf_X9_55 rfl dX9_ball_19 ?_
    refine lv_iconst (v := 1) hx hb dX9_ball_22 (by decide) ?_
    refine lv_icmp_ne (tgt := 30) hx hb dX9_ball_23 (by decide) (fun _ => ?_) (fun c9 => absurd c9 (by decide))
    refine lv_aload_n hx hb dX9_ball_30 rfl (lv_at hl 0 rfl) ?_
    refine lv_iconst (v := 2) hx hb dX9_ball_31 (by decide) ?_
    refine lv_iconst (v := 1) hx hb dX9_ball_32 (by decide) ?_
    refine lv_iload_n hx hb dX9_ball_33 rfl (lv_at hl 1 rfl) ?_
    refine lv_iload_n hx hb dX9_ball_34 rfl (lv_at hl 2 rfl) ?_
    refine lv_iload_n hx hb dX9_ball_35 rfl (lv_at hl 3 rfl) ?_
    refine g_cI C0 G (g_runS C0 G (rest := [.int ru, .int ki, .int 1, .int 2, .ref m]) (k_X9_bit hfl bo hb_bo) hY_X9_bit mm_X9_187 ms_X9_bit ⟨(Nat.le_of_ble_eq_true rfl), (Nat.le_of_ble_eq_true rfl)⟩ rfl hl.1 rfl (Nat.le_of_ble_eq_true rfl) dX9_ball_36 ⟨(Nat.le_of_ble_eq_true rfl), (Nat.le_of_ble_eq_true rfl)⟩) (kx_no rfl) (fun r12 u11 H locs hp10 G => ?_)
    obtain ⟨-, eu11⟩ := hp10
    rw [eu11] at G
    refine lv_iconst (v := 0) hx hb dX9_ball_39 (by decide) ?_
    refine lv_iconst (v := 0) hx hb dX9_ball_40 (by decide) ?_
    have k13 : f7 v = some (.inl (cy 0, 6441, .inl (fun _ => 0))) := hup hf7 (hne h_v h_m (by intro q; cases q)) h_v
    refine g_cI C0 G (g_runV C0 G (rest := []) (k_X9_commands hfl 2 1 ki ru r12 0 0 k8 k13) k8 rfl hY_X9_commands mm_X9_179 mi_X9_commands ml_X9_commands ⟨(Nat.le_of_ble_eq_true rfl), (Nat.le_of_ble_eq_true rfl)⟩ rfl hl.1 rfl (Nat.le_of_ble_eq_true rfl) dX9_ball_41 ⟨(Nat.le_of_ble_eq_true rfl), (Nat.le_of_ble_eq_true rfl)⟩) (kx_no rfl) (fun r16 u15 H locs hp14 G => ?_)
    exact g_iret C0 G hr dX9_ball_44 (Nat.le_of_ble_eq_true rfl) (Nat.le_of_ble_eq_true rfl) (by exact Or.inl (⟨(by first | assumption | (simp_all; done) | (simp only [Int32.lt_iff_toInt_lt, Int32.le_iff_toInt_le] at *; omega)), hp14⟩))
  · refine lv_if_eq (tgt := 14) hx hb dX9_ball_7 (by decide) (fun _ => ?_) (fun c17 => absurd (by decide) c17)
    refine lv_iconst (v := 1) hx hb dX9_ball_14 (by decide) ?_
    refine g_put C0 G h_m rfl hiX9 tyX9 tyX9_ok nmX9 0 (by decide) mf_X9_55 rfl rfl rfl rfl (Nat.le_of_ble_eq_true rfl) dX9_ball_15 (fun H locs f18 hf18 G => ?_)
    have k19 : f18 m = some (.inr (11, [.int 1, .int 0, .ref v, .ref im, .ref kp, .ref pa, .ref de, .ref ide, .int 0, .int 0, .ref tx, .int 0, .int (-1), .int (-1), .ref pt, .int 0, .int 0, .int 0, .ref so, .ref mo, .ref wh, .ref pf])) := hus hf18
    refine lv_aload_n hx hb dX9_ball_18 rfl (lv_at hl 0 rfl) ?_
    refine g_get C0 G k19 rfl hiX9 0 (by decide) mf_X9_55 rfl dX9_ball_19 ?_
    refine lv_iconst (v := 1) hx hb dX9_ball_22 (by decide) ?_
    refine lv_icmp_ne (tgt := 30) hx hb dX9_ball_23 (by decide) (fun c20 => absurd (by decide) c20) (fun _ => ?_)
    refine lv_iconst (v := 0) hx hb dX9_ball_26 (by decide) ?_
    refine lv_goto (tgt := 44) hx hb dX9_ball_27 (by decide) ?_
    exact g_iret C0 G hr dX9_ball_44 (Nat.le_of_ble_eq_true rfl) (Nat.le_of_ble_eq_true rfl) (by exact Or.inr (⟨(by first | assumption | (simp_all; done) | (simp only [Int32.lt_iff_toInt_lt, Int32.le_iff_toInt_le] at *; omega)), ⟨_, k19⟩⟩))
set_option maxRecDepth 100000 in
theorem k_X9_wicket {l : Launch} (hfl : l.stackTraces = false) {D : va_G} {cy : Nat → ClassId} {f : Hf} {sz : Nat} {m v im kp pa de ide tx pt so mo wh pf : Nat} (wa ki ot ru cr : Int32) (h_m : f m = some (.inr (11, [.int 0, .int 0, .ref v, .ref im, .ref kp, .ref pa, .ref de, .ref ide, .int 0, .int 0, .ref tx, .int 0, .int (-1), .int (-1), .ref pt, .int 0, .int 0, .int 0, .ref so, .ref mo, .ref wh, .ref pf]))) (h_v : f v = some (.inl (cy 0, 6441, .inl (fun _ => 0)))) (hb_ot : ot = 0 ∨ ot = 1) (hb_cr : cr = 0 ∨ cr = 1) : hMet l yX9_wicket cX9_wicket 6 (some .int) { frames := 5, cells := 0, slots := 0, locals := 122 } D (hTy cy) f sz [.ref m, .int wa, .int ki, .int ot, .int ru, .int cr] (hQi (fun r u => (((0 ≤ wa ∧ wa ≤ 5) ∧ (0 ≤ ki ∧ ki ≤ 2) ∧ (0 ≤ ru ∧ ru ≤ 3)) ∧ hT u m 2) ∨ ((¬ ((0 ≤ wa ∧ wa ≤ 5) ∧ (0 ≤ ki ∧ ki ≤ 2) ∧ (0 ≤ ru ∧ ru ≤ 3))) ∧ hT u m 1)) D f sz) hNo := by
  refine h_enter (by decide) hfl (Nat.le_of_ble_eq_true rfl) ?_
  intro p9 e9 s9 m9 b9 t9 c9 hsz C0 hr hnm G ls hl
  have hx := C0.1.1
  have hb := C0.1.2.1
  have hl : lv_has ls 6 [(0, .ref m), (1, .int wa), (2, .int ki), (3, .int ot), (4, .int ru), (5, .int cr)] := hl
  refine lv_aload_n hx hb dX9_wicket_0 rfl (lv_at hl 0 rfl) ?_
  refine lv_iload_n hx hb dX9_wicket_1 rfl (lv_at hl 1 rfl) ?_
  refine lv_iconst (v := 0) hx hb dX9_wicket_2 (by decide) ?_
  refine lv_iconst (v := 5) hx hb dX9_wicket_3 (by decide) ?_
  refine g_cI C0 G (g_runS C0 G (rest := [.ref m]) (k_X9_isIn hfl wa 0 5) hY_X9_isIn mm_X9_76 ms_X9_isIn ⟨(Nat.le_of_ble_eq_true rfl), (Nat.le_of_ble_eq_true rfl)⟩ rfl hl.1 rfl (Nat.le_of_ble_eq_true rfl) dX9_wicket_4 ⟨(Nat.le_of_ble_eq_true rfl), (Nat.le_of_ble_eq_true rfl)⟩) (kx_no rfl) (fun r3 u2 H locs hp1 G => ?_)
  obtain ⟨b4, eu2⟩ := hp1
  rw [eu2] at G
  rcases b4 with ⟨rfl, c5⟩ | ⟨rfl, c5⟩
  · refine lv_if_eq (tgt := 33) hx hb dX9_wicket_7 (by decide) (fun c6 => absurd c6 (by decide)) (fun _ => ?_)
    refine lv_iload_n hx hb dX9_wicket_10 rfl (lv_at hl 2 rfl) ?_
    refine lv_iconst (v := 0) hx hb dX9_wicket_11 (by decide) ?_
    refine lv_iconst (v := 2) hx hb dX9_wicket_12 (by decide) ?_
    refine g_cI C0 G (g_runS C0 G (rest := [.ref m]) (k_X9_isIn hfl ki 0 2) hY_X9_isIn mm_X9_76 ms_X9_isIn ⟨(Nat.le_of_ble_eq_true rfl), (Nat.le_of_ble_eq_true rfl)⟩ rfl hl.1 rfl (Nat.le_of_ble_eq_true rfl) dX9_wicket_13 ⟨(Nat.le_of_ble_eq_true rfl), (Nat.le_of_ble_eq_true rfl)⟩) (kx_no rfl) (fun r9 u8 H locs hp7 G => ?_)
    obtain ⟨b10, eu8⟩ := hp7
    rw [eu8] at G
    rcases b10 with ⟨rfl, c11⟩ | ⟨rfl, c11⟩
    · refine lv_if_eq (tgt := 33) hx hb dX9_wicket_16 (by decide) (fun c12 => absurd c12 (by decide)) (fun _ => ?_)
      refine lv_iload hx hb dX9_wicket_19 (lv_at hl 4 rfl) ?_
      refine lv_iconst (v := 0) hx hb dX9_wicket_21 (by decide) ?_
      refine lv_iconst (v := 3) hx hb dX9_wicket_22 (by decide) ?_
      refine g_cI C0 G (g_runS C0 G (rest := [.ref m]) (k_X9_isIn hfl ru 0 3) hY_X9_isIn mm_X9_76 ms_X9_isIn ⟨(Nat.le_of_ble_eq_true rfl), (Nat.le_of_ble_eq_true rfl)⟩ rfl hl.1 rfl (Nat.le_of_ble_eq_true rfl) dX9_wicket_23 ⟨(Nat.le_of_ble_eq_true rfl), (Nat.le_of_ble_eq_true rfl)⟩) (kx_no rfl) (fun r15 u14 H locs hp13 G => ?_)
      obtain ⟨b16, eu14⟩ := hp13
      rw [eu14] at G
      rcases b16 with ⟨rfl, c17⟩ | ⟨rfl, c17⟩
      · refine lv_if_eq (tgt := 33) hx hb dX9_wicket_26 (by decide) (fun c18 => absurd c18 (by decide)) (fun _ => ?_)
        refine lv_iconst (v := 0) hx hb dX9_wicket_29 (by decide) ?_
        refine lv_goto (tgt := 34) hx hb dX9_wicket_30 (by decide) ?_
        refine g_put C0 G h_m rfl hiX9 tyX9 tyX9_ok nmX9 0 (by decide) mf_X9_55 rfl rfl rfl rfl (Nat.le_of_ble_eq_true rfl) dX9_wicket_34 (fun H locs f19 hf19 G => ?_)
        have k20 : f19 m = some (.inr (11, [.int 0, .int 0, .ref v, .ref im, .ref kp, .ref pa, .ref de, .ref ide, .int 0, .int 0, .ref tx, .int 0, .int (-1), .int (-1), .ref pt, .int 0, .int 0, .int 0, .ref so, .ref mo, .ref wh, .ref pf])) := hus hf19
        refine lv_aload_n hx hb dX9_wicket_37 rfl (lv_at hl 0 rfl) ?_
        refine g_get C0 G k20 rfl hiX9 0 (by decide) mf_X9_55 rfl dX9_wicket_38 ?_
        refine lv_iconst (v := 1) hx hb dX9_wicket_41 (by decide) ?_
        refine lv_icmp_ne (tgt := 49) hx hb dX9_wicket_42 (by decide) (fun _ => ?_) (fun c21 => absurd c21 (by decide))
        refine lv_aload_n hx hb dX9_wicket_49 rfl (lv_at hl 0 rfl) ?_
        refine lv_iconst (v := 2) hx hb dX9_wicket_50 (by decide) ?_
        refine lv_iconst (v := 2) hx hb dX9_wicket_51 (by decide) ?_
        refine lv_iload_n hx hb dX9_wicket_52 rfl (lv_at hl 1 rfl) ?_
        refine lv_iload_n hx hb dX9_wicket_53 rfl (lv_at hl 2 rfl) ?_
        refine lv_iload_n hx hb dX9_wicket_54 rfl (lv_at hl 3 rfl) ?_
        refine g_cI C0 G (g_runS C0 G (rest := [.int ki, .int wa, .int 2, .int 2, .ref m]) (k_X9_bit hfl ot hb_ot) hY_X9_bit mm_X9_187 ms_X9_bit ⟨(Nat.le_of_ble_eq_true rfl), (Nat.le_of_ble_eq_true rfl)⟩ rfl hl.1 rfl (Nat.le_of_ble_eq_true rfl) dX9_wicket_55 ⟨(Nat.le_of_ble_eq_true rfl), (Nat.le_of_ble_eq_true rfl)⟩) (kx_no rfl) (fun r24 u23 H locs hp22 G => ?_)
        obtain ⟨-, eu23⟩ := hp22
        rw [eu23] at G
        refine lv_iload hx hb dX9_wicket_58 (lv_at hl 4 rfl) ?_
        refine lv_iload hx hb dX9_wicket_60 (lv_at hl 5 rfl) ?_
        refine g_cI C0 G (g_runS C0 G (rest := [.int ru, .int r24, .int ki, .int wa, .int 2, .int 2, .ref m]) (k_X9_bit hfl cr hb_cr) hY_X9_bit mm_X9_187 ms_X9_bit ⟨(Nat.le_of_ble_eq_true rfl), (Nat.le_of_ble_eq_true rfl)⟩ rfl hl.1 rfl (Nat.le_of_ble_eq_true rfl) dX9_wicket_62 ⟨(Nat.le_of_ble_eq_true rfl), (Nat.le_of_ble_eq_true rfl)⟩) (kx_no rfl) (fun r27 u26 H locs hp25 G => ?_)
        obtain ⟨-, eu26⟩ := hp25
        rw [eu26] at G
        have k28 : f19 v = some (.inl (cy 0, 6441, .inl (fun _ => 0))) := hup hf19 (hne h_v h_m (by intro q; cases q)) h_v
        refine g_cI C0 G (g_runV C0 G (rest := []) (k_X9_commands hfl 2 2 wa ki r24 ru r27 k20 k28) k20 rfl hY_X9_commands mm_X9_179 mi_X9_commands ml_X9_commands ⟨(Nat.le_of_ble_eq_true rfl), (Nat.le_of_ble_eq_true rfl)⟩ rfl hl.1 rfl (Nat.le_of_ble_eq_true rfl) dX9_wicket_65 ⟨(Nat.le_of_ble_eq_true rfl), (Nat.le_of_ble_eq_true rfl)⟩) (kx_no rfl) (fun r31 u30 H locs hp29 G => ?_)
        exact g_iret C0 G hr dX9_wicket_68 (Nat.le_of_ble_eq_true rfl) (Nat.le_of_ble_eq_true rfl) (by exact Or.inl (⟨(by first | assumption | (simp_all; done) | (simp only [Int32.lt_iff_toInt_lt, Int32.le_iff_toInt_le] at *; omega)), hp29⟩))
      · refine lv_if_eq (tgt := 33) hx hb dX9_wicket_26 (by decide) (fun _ => ?_) (fun c32 => absurd (by decide) c32)
        refine lv_iconst (v := 1) hx hb dX9_wicket_33 (by decide) ?_
        refine g_put C0 G h_m rfl hiX9 tyX9 tyX9_ok nmX9 0 (by decide) mf_X9_55 rfl rfl rfl rfl (Nat.le_of_ble_eq_true rfl) dX9_wicket_34 (fun H locs f33 hf33 G => ?_)
        have k34 : f33 m = some (.inr (11, [.int 1, .int 0, .ref v, .ref im, .ref kp, .ref pa, .ref de, .ref ide, .int 0, .int 0, .ref tx, .int 0, .int (-1), .int (-1), .ref pt, .int 0, .int 0, .int 0, .ref so, .ref mo, .ref wh, .ref pf])) := hus hf33
        refine lv_aload_n hx hb dX9_wicket_37 rfl (lv_at hl 0 rfl) ?_
        refine g_get C0 G k34 rfl hiX9 0 (by decide) mf_X9_55 rfl dX9_wicket_38 ?_
        refine lv_iconst (v := 1) hx hb dX9_wicket_41 (by decide) ?_
        refine lv_icmp_ne (tgt := 49) hx hb dX9_wicket_42 (by decide) (fun c35 => absurd (by decide) c35) (fun _ => ?_)
        refine lv_iconst (v := 0) hx hb dX9_wicket_45 (by decide) ?_
        refine lv_goto (tgt := 68) hx hb dX9_wicket_46 (by decide) ?_
        exact g_iret C0 G hr dX9_wicket_68 (Nat.le_of_ble_eq_true rfl) (Nat.le_of_ble_eq_true rfl) (by exact Or.inr (⟨(by first | assumption | (simp_all; done) | (simp only [Int32.lt_iff_toInt_lt, Int32.le_iff_toInt_le] at *; omega)), ⟨_, k34⟩⟩))
    · refine lv_if_eq (tgt := 33) hx hb dX9_wicket_16 (by decide) (fun _ => ?_) (fun c36 => absurd (by decide) c36)
      refine lv_iconst (v := 1) hx hb dX9_wicket_33 (by decide) ?_
      refine g_put C0 G h_m rfl hiX9 tyX9 tyX9_ok nmX9 0 (by decide) mf_X9_55 rfl rfl rfl rfl (Nat.le_of_ble_eq_true rfl) dX9_wicket_34 (fun H locs f37 hf37 G => ?_)
      have k38 : f37 m = some (.inr (11, [.int 1, .int 0, .ref v, .ref im, .ref kp, .ref pa, .ref de, .ref ide, .int 0, .int 0, .ref tx, .int 0, .int (-1), .int (-1), .ref pt, .int 0, .int 0, .int 0, .ref so, .ref mo, .ref wh, .ref pf])) := hus hf37
      refine lv_aload_n hx hb dX9_wicket_37 rfl (lv_at hl 0 rfl) ?_
      refine g_get C0 G k38 rfl hiX9 0 (by decide) mf_X9_55 rfl dX9_wicket_38 ?_
      refine lv_iconst (v := 1) hx hb dX9_wicket_41 (by decide) ?_
      refine lv_icmp_ne (tgt := 49) hx hb dX9_wicket_42 (by decide) (fun c39 => absurd (by decide) c39) (fun _ => ?_)
      refine lv_iconst (v := 0) hx hb dX9_wicket_45 (by decide) ?_
      refine lv_goto (tgt := 68) hx hb dX9_wicket_46 (by decide) ?_
      exact g_iret C0 G hr dX9_wicket_68 (Nat.le_of_ble_eq_true rfl) (Nat.le_of_ble_eq_true rfl) (by exact Or.inr (⟨(by first | assumption | (simp_all; done) | (simp only [Int32.lt_iff_toInt_lt, Int32.le_iff_toInt_le] at *; omega)), ⟨_, k38⟩⟩))
  · refine lv_if_eq (tgt := 33) hx hb dX9_wicket_7 (by decide) (fun _ => ?_) (fun c40 => absurd (by decide) c40)
    refine lv_iconst (v := 1) hx hb dX9_wicket_33 (by decide) ?_
    refine g_put C0 G h_m rfl hiX9 tyX9 tyX9_ok nmX9 0 (by decide) mf_X9_55 rfl rfl rfl rfl (Nat.le_of_ble_eq_true rfl) dX9_wicket_34 (fun H locs f41 hf41 G => ?_)
    have k42 : f41 m = some (.inr (11, [.int 1, .int 0, .ref v, .ref im, .ref kp, .ref pa, .ref de, .ref ide, .int 0, .int 0, .ref tx, .int 0, .int (-1), .int (-1), .ref pt, .int 0, .int 0, .int 0, .ref so, .ref mo, .ref wh, .ref pf])) := hus hf41
    refine lv_aload_n hx hb dX9_wicket_37 rfl (lv_at hl 0 rfl) ?_
    refine g_get C0 G k42 rfl hiX9 0 (by decide) mf_X9_55 rfl dX9_wicket_38 ?_
    refine lv_iconst (v := 1) hx hb dX9_wicket_41 (by decide) ?_
    refine lv_icmp_ne (tgt := 49) hx hb dX9_wicket_42 (by decide) (fun c43 => absurd (by decide) c43) (fun _ => ?_)
    refine lv_iconst (v := 0) hx hb dX9_wicket_45 (by decide) ?_
    refine lv_goto (tgt := 68) hx hb dX9_wicket_46 (by decide) ?_
    exact g_iret C0 G hr dX9_wicket_68 (Nat.le_of_ble_eq_true rfl) (Nat.le_of_ble_eq_true rfl) (by exact Or.inr (⟨(by first | assumption | (simp_all; done) | (simp only [Int32.lt_iff_toInt_lt, Int32.le_iff_toInt_le] at *; omega)), ⟨_, k42⟩⟩))
set_option maxRecDepth 100000 in
theorem k_X9_retire {l : Launch} (hfl : l.stackTraces = false) {D : va_G} {cy : Nat → ClassId} {f : Hf} {sz : Nat} {m v im kp pa de ide tx pt so mo wh pf : Nat} (ot hu : Int32) (h_m : f m = some (.inr (11, [.int 0, .int 0, .ref v, .ref im, .ref kp, .ref pa, .ref de, .ref ide, .int 0, .int 0, .ref tx, .int 0, .int (-1), .int (-1), .ref pt, .int 0, .int 0, .int 0, .ref so, .ref mo, .ref wh, .ref pf]))) (h_v : f v = some (.inl (cy 0, 6441, .inl (fun _ => 0)))) (hb_ot : ot = 0 ∨ ot = 1) (hb_hu : hu = 0 ∨ hu = 1) : hMet l yX9_retire cX9_retire 3 (some .int) { frames := 5, cells := 0, slots := 0, locals := 122 } D (hTy cy) f sz [.ref m, .int ot, .int hu] (hQi (fun r u => hT u m 1) D f sz) hNo := by
  refine h_enter (by decide) hfl (Nat.le_of_ble_eq_true rfl) ?_
  intro p9 e9 s9 m9 b9 t9 c9 hsz C0 hr hnm G ls hl
  have hx := C0.1.1
  have hb := C0.1.2.1
  have hl : lv_has ls 3 [(0, .ref m), (1, .int ot), (2, .int hu)] := hl
  refine lv_aload_n hx hb dX9_retire_0 rfl (lv_at hl 0 rfl) ?_
  refine lv_iconst (v := 0) hx hb dX9_retire_1 (by decide) ?_
  refine g_put C0 G h_m rfl hiX9 tyX9 tyX9_ok nmX9 0 (by decide) mf_X9_55 rfl rfl rfl rfl (Nat.le_of_ble_eq_true rfl) dX9_retire_2 (fun H locs f1 hf1 G => ?_)
  have k2 : f1 m = some (.inr (11, [.int 0, .int 0, .ref v, .ref im, .ref kp, .ref pa, .ref de, .ref ide, .int 0, .int 0, .ref tx, .int 0, .int (-1), .int (-1), .ref pt, .int 0, .int 0, .int 0, .ref so, .ref mo, .ref wh, .ref pf])) := hus hf1
  refine lv_aload_n hx hb dX9_retire_5 rfl (lv_at hl 0 rfl) ?_
  refine lv_iconst (v := 1) hx hb dX9_retire_6 (by decide) ?_
  refine lv_iconst (v := 3) hx hb dX9_retire_7 (by decide) ?_
  refine lv_iload_n hx hb dX9_retire_8 rfl (lv_at hl 1 rfl) ?_
  refine g_cI C0 G (g_runS C0 G (rest := [.int 3, .int 1, .ref m]) (k_X9_bit hfl ot hb_ot) hY_X9_bit mm_X9_187 ms_X9_bit ⟨(Nat.le_of_ble_eq_true rfl), (Nat.le_of_ble_eq_true rfl)⟩ rfl hl.1 rfl (Nat.le_of_ble_eq_true rfl) dX9_retire_9 ⟨(Nat.le_of_ble_eq_true rfl), (Nat.le_of_ble_eq_true rfl)⟩) (kx_no rfl) (fun r5 u4 H locs hp3 G => ?_)
  obtain ⟨-, eu4⟩ := hp3
  rw [eu4] at G
  refine lv_iload_n hx hb dX9_retire_12 rfl (lv_at hl 2 rfl) ?_
  refine g_cI C0 G (g_runS C0 G (rest := [.int r5, .int 3, .int 1, .ref m]) (k_X9_bit hfl hu hb_hu) hY_X9_bit mm_X9_187 ms_X9_bit ⟨(Nat.le_of_ble_eq_true rfl), (Nat.le_of_ble_eq_true rfl)⟩ rfl hl.1 rfl (Nat.le_of_ble_eq_true rfl) dX9_retire_13 ⟨(Nat.le_of_ble_eq_true rfl), (Nat.le_of_ble_eq_true rfl)⟩) (kx_no rfl) (fun r8 u7 H locs hp6 G => ?_)
  obtain ⟨-, eu7⟩ := hp6
  rw [eu7] at G
  refine lv_iconst (v := 0) hx hb dX9_retire_16 (by decide) ?_
  refine lv_iconst (v := 0) hx hb dX9_retire_17 (by decide) ?_
  refine lv_iconst (v := 0) hx hb dX9_retire_18 (by decide) ?_
  have k9 : f1 v = some (.inl (cy 0, 6441, .inl (fun _ => 0))) := hup hf1 (hne h_v h_m (by intro q; cases q)) h_v
  refine g_cI C0 G (g_runV C0 G (rest := []) (k_X9_commands hfl 1 3 r5 r8 0 0 0 k2 k9) k2 rfl hY_X9_commands mm_X9_179 mi_X9_commands ml_X9_commands ⟨(Nat.le_of_ble_eq_true rfl), (Nat.le_of_ble_eq_true rfl)⟩ rfl hl.1 rfl (Nat.le_of_ble_eq_true rfl) dX9_retire_19 ⟨(Nat.le_of_ble_eq_true rfl), (Nat.le_of_ble_eq_true rfl)⟩) (kx_no rfl) (fun r12 u11 H locs hp10 G => ?_)
  exact g_iret C0 G hr dX9_retire_22 (Nat.le_of_ble_eq_true rfl) (Nat.le_of_ble_eq_true rfl) (by exact hp10)
set_option maxRecDepth 100000 in
theorem k_X9_choose {l : Launch} (hfl : l.stackTraces = false) {D : va_G} {cy : Nat → ClassId} {f : Hf} {sz : Nat} {m v im kp pa de ide tx pt so mo wh pf : Nat} (p : Int32) (h_m : f m = some (.inr (11, [.int 0, .int 0, .ref v, .ref im, .ref kp, .ref pa, .ref de, .ref ide, .int 0, .int 0, .ref tx, .int 0, .int (-1), .int (-1), .ref pt, .int 0, .int 0, .int 0, .ref so, .ref mo, .ref wh, .ref pf]))) (h_v : f v = some (.inl (cy 0, 6441, .inl (fun _ => 0)))) : hMet l yX9_choose cX9_choose 2 (some .int) { frames := 5, cells := 0, slots := 0, locals := 122 } D (hTy cy) f sz [.ref m, .int p] (hQi (fun r u => ((0 ≤ p ∧ p ≤ 10) ∧ hT u m 2) ∨ ((¬ (0 ≤ p ∧ p ≤ 10)) ∧ hT u m 1)) D f sz) hNo := by
  refine h_enter (by decide) hfl (Nat.le_of_ble_eq_true rfl) ?_
  intro p9 e9 s9 m9 b9 t9 c9 hsz C0 hr hnm G ls hl
  have hx := C0.1.1
  have hb := C0.1.2.1
  have hl : lv_has ls 2 [(0, .ref m), (1, .int p)] := hl
  refine lv_aload_n hx hb dX9_choose_0 rfl (lv_at hl 0 rfl) ?_
  refine lv_iload_n hx hb dX9_choose_1 rfl (lv_at hl 1 rfl) ?_
  refine lv_iconst (v := 0) hx hb dX9_choose_2 (by decide) ?_
  refine lv_bipush (v := 10) hx hb dX9_choose_3 (by decide) ?_
  refine g_cI C0 G (g_runS C0 G (rest := [.ref m]) (k_X9_isIn hfl p 0 10) hY_X9_isIn mm_X9_76 ms_X9_isIn ⟨(Nat.le_of_ble_eq_true rfl), (Nat.le_of_ble_eq_true rfl)⟩ rfl hl.1 rfl (Nat.le_of_ble_eq_true rfl) dX9_choose_5 ⟨(Nat.le_of_ble_eq_true rfl), (Nat.le_of_ble_eq_true rfl)⟩) (kx_no rfl) (fun r3 u2 H locs hp1 G => ?_)
  obtain ⟨b4, eu2⟩ := hp1
  rw [eu2] at G
  rcases b4 with ⟨rfl, c5⟩ | ⟨rfl, c5⟩
  · refine lv_if_eq (tgt := 15) hx hb dX9_choose_8 (by decide) (fun c6 => absurd c6 (by decide)) (fun _ => ?_)
    refine lv_iconst (v := 0) hx hb dX9_choose_11 (by decide) ?_
    refine lv_goto (tgt := 16) hx hb dX9_choose_12 (by decide) ?_
    refine g_put C0 G h_m rfl hiX9 tyX9 tyX9_ok nmX9 0 (by decide) mf_X9_55 rfl rfl rfl rfl (Nat.le_of_ble_eq_true rfl) dX9_choose_16 (fun H locs f7 hf7 G => ?_)
    have k8 : f7 m = some (.inr (11, [.int 0, .int 0, .ref v, .ref im, .ref kp, .ref pa, .ref de, .ref ide, .int 0, .int 0, .ref tx, .int 0, .int (-1), .int (-1), .ref pt, .int 0, .int 0, .int 0, .ref so, .ref mo, .ref wh, .ref pf])) := hus hf7
    refine lv_aload_n hx hb dX9_choose_19 rfl (lv_at hl 0 rfl) ?_
    refine g_get C0 G k8 rfl hiX9 0 (by decide) mf_X9_55 rfl dX9_choose_20 ?_
    refine lv_iconst (v := 1) hx hb dX9_choose_23 (by decide) ?_
    refine lv_icmp_ne (tgt := 31) hx hb dX9_choose_24 (by decide) (fun _ => ?_) (fun c9 => absurd c9 (by decide))
    refine lv_aload_n hx hb dX9_choose_31 rfl (lv_at hl 0 rfl) ?_
    refine lv_iconst (v := 2) hx hb dX9_choose_32 (by decide) ?_
    refine lv_iconst (v := 4) hx hb dX9_choose_33 (by decide) ?_
    refine lv_iload_n hx hb dX9_choose_34 rfl (lv_at hl 1 rfl) ?_
    refine lv_iconst (v := 0) hx hb dX9_choose_35 (by decide) ?_
    refine lv_iconst (v := 0) hx hb dX9_choose_36 (by decide) ?_
    refine lv_iconst (v := 0) hx hb dX9_choose_37 (by decide) ?_
    refine lv_iconst (v := 0) hx hb dX9_choose_38 (by decide) ?_
    have k10 : f7 v = some (.inl (cy 0, 6441, .inl (fun _ => 0))) := hup hf7 (hne h_v h_m (by intro q; cases q)) h_v
    refine g_cI C0 G (g_runV C0 G (rest := []) (k_X9_commands hfl 2 4 p 0 0 0 0 k8 k10) k8 rfl hY_X9_commands mm_X9_179 mi_X9_commands ml_X9_commands ⟨(Nat.le_of_ble_eq_true rfl), (Nat.le_of_ble_eq_true rfl)⟩ rfl hl.1 rfl (Nat.le_of_ble_eq_true rfl) dX9_choose_39 ⟨(Nat.le_of_ble_eq_true rfl), (Nat.le_of_ble_eq_true rfl)⟩) (kx_no rfl) (fun r13 u12 H locs hp11 G => ?_)
    exact g_iret C0 G hr dX9_choose_42 (Nat.le_of_ble_eq_true rfl) (Nat.le_of_ble_eq_true rfl) (by exact Or.inl (⟨(by first | assumption | (simp_all; done) | (simp only [Int32.lt_iff_toInt_lt, Int32.le_iff_toInt_le] at *; omega)), hp11⟩))
  · refine lv_if_eq (tgt := 15) hx hb dX9_choose_8 (by decide) (fun _ => ?_) (fun c14 => absurd (by decide) c14)
    refine lv_iconst (v := 1) hx hb dX9_choose_15 (by decide) ?_
    refine g_put C0 G h_m rfl hiX9 tyX9 tyX9_ok nmX9 0 (by decide) mf_X9_55 rfl rfl rfl rfl (Nat.le_of_ble_eq_true rfl) dX9_choose_16 (fun H locs f15 hf15 G => ?_)
    have k16 : f15 m = some (.inr (11, [.int 1, .int 0, .ref v, .ref im, .ref kp, .ref pa, .ref de, .ref ide, .int 0, .int 0, .ref tx, .int 0, .int (-1), .int (-1), .ref pt, .int 0, .int 0, .int 0, .ref so, .ref mo, .ref wh, .ref pf])) := hus hf15
    refine lv_aload_n hx hb dX9_choose_19 rfl (lv_at hl 0 rfl) ?_
    refine g_get C0 G k16 rfl hiX9 0 (by decide) mf_X9_55 rfl dX9_choose_20 ?_
    refine lv_iconst (v := 1) hx hb dX9_choose_23 (by decide) ?_
    refine lv_icmp_ne (tgt := 31) hx hb dX9_choose_24 (by decide) (fun c17 => absurd (by decide) c17) (fun _ => ?_)
    refine lv_iconst (v := 0) hx hb dX9_choose_27 (by decide) ?_
    refine lv_goto (tgt := 42) hx hb dX9_choose_28 (by decide) ?_
    exact g_iret C0 G hr dX9_choose_42 (Nat.le_of_ble_eq_true rfl) (Nat.le_of_ble_eq_true rfl) (by exact Or.inr (⟨(by first | assumption | (simp_all; done) | (simp only [Int32.lt_iff_toInt_lt, Int32.le_iff_toInt_le] at *; omega)), ⟨_, k16⟩⟩))
set_option maxRecDepth 100000 in
theorem k_X9_declare {l : Launch} (hfl : l.stackTraces = false) {D : va_G} {cy : Nat → ClassId} {f : Hf} {sz : Nat} {m v im kp pa de ide tx pt so mo wh pf : Nat} (h_m : f m = some (.inr (11, [.int 0, .int 0, .ref v, .ref im, .ref kp, .ref pa, .ref de, .ref ide, .int 0, .int 0, .ref tx, .int 0, .int (-1), .int (-1), .ref pt, .int 0, .int 0, .int 0, .ref so, .ref mo, .ref wh, .ref pf]))) (h_v : f v = some (.inl (cy 0, 6441, .inl (fun _ => 0)))) : hMet l yX9_declare cX9_declare 1 (some .int) { frames := 5, cells := 0, slots := 0, locals := 122 } D (hTy cy) f sz [.ref m] (hQi (fun r u => hT u m 1) D f sz) hNo := by
  refine h_enter (by decide) hfl (Nat.le_of_ble_eq_true rfl) ?_
  intro p9 e9 s9 m9 b9 t9 c9 hsz C0 hr hnm G ls hl
  have hx := C0.1.1
  have hb := C0.1.2.1
  have hl : lv_has ls 1 [(0, .ref m)] := hl
  refine lv_aload_n hx hb dX9_declare_0 rfl (lv_at hl 0 rfl) ?_
  refine lv_iconst (v := 0) hx hb dX9_declare_1 (by decide) ?_
  refine g_put C0 G h_m rfl hiX9 tyX9 tyX9_ok nmX9 0 (by decide) mf_X9_55 rfl rfl rfl rfl (Nat.le_of_ble_eq_true rfl) dX9_declare_2 (fun H locs f1 hf1 G => ?_)
  have k2 : f1 m = some (.inr (11, [.int 0, .int 0, .ref v, .ref im, .ref kp, .ref pa, .ref de, .ref ide, .int 0, .int 0, .ref tx, .int 0, .int (-1), .int (-1), .ref pt, .int 0, .int 0, .int 0, .ref so, .ref mo, .ref wh, .ref pf])) := hus hf1
  refine lv_aload_n hx hb dX9_declare_5 rfl (lv_at hl 0 rfl) ?_
  refine lv_iconst (v := 1) hx hb dX9_declare_6 (by decide) ?_
  refine lv_iconst (v := 5) hx hb dX9_declare_7 (by decide) ?_
  refine lv_iconst (v := 0) hx hb dX9_declare_8 (by decide) ?_
  refine lv_iconst (v := 0) hx hb dX9_declare_9 (by decide) ?_
  refine lv_iconst (v := 0) hx hb dX9_declare_10 (by decide) ?_
  refine lv_iconst (v := 0) hx hb dX9_declare_11 (by decide) ?_
  refine lv_iconst (v := 0) hx hb dX9_declare_12 (by decide) ?_
  have k3 : f1 v = some (.inl (cy 0, 6441, .inl (fun _ => 0))) := hup hf1 (hne h_v h_m (by intro q; cases q)) h_v
  refine g_cI C0 G (g_runV C0 G (rest := []) (k_X9_commands hfl 1 5 0 0 0 0 0 k2 k3) k2 rfl hY_X9_commands mm_X9_179 mi_X9_commands ml_X9_commands ⟨(Nat.le_of_ble_eq_true rfl), (Nat.le_of_ble_eq_true rfl)⟩ rfl hl.1 rfl (Nat.le_of_ble_eq_true rfl) dX9_declare_13 ⟨(Nat.le_of_ble_eq_true rfl), (Nat.le_of_ble_eq_true rfl)⟩) (kx_no rfl) (fun r6 u5 H locs hp4 G => ?_)
  exact g_iret C0 G hr dX9_declare_16 (Nat.le_of_ble_eq_true rfl) (Nat.le_of_ble_eq_true rfl) (by exact hp4)
set_option maxRecDepth 100000 in
theorem k_X9_loseOvers {l : Launch} (hfl : l.stackTraces = false) {D : va_G} {cy : Nat → ClassId} {f : Hf} {sz : Nat} {m v im kp pa de ide tx pt so mo wh pf : Nat} (p : Int32) (h_m : f m = some (.inr (11, [.int 0, .int 0, .ref v, .ref im, .ref kp, .ref pa, .ref de, .ref ide, .int 0, .int 0, .ref tx, .int 0, .int (-1), .int (-1), .ref pt, .int 0, .int 0, .int 0, .ref so, .ref mo, .ref wh, .ref pf]))) (h_v : f v = some (.inl (cy 0, 6441, .inl (fun _ => 0)))) : hMet l yX9_loseOvers cX9_loseOvers 2 (some .int) { frames := 5, cells := 0, slots := 0, locals := 122 } D (hTy cy) f sz [.ref m, .int p] (hQi (fun r u => ((1 ≤ p ∧ p ≤ 19) ∧ hT u m 2) ∨ ((¬ (1 ≤ p ∧ p ≤ 19)) ∧ hT u m 1)) D f sz) hNo := by
  refine h_enter (by decide) hfl (Nat.le_of_ble_eq_true rfl) ?_
  intro p9 e9 s9 m9 b9 t9 c9 hsz C0 hr hnm G ls hl
  have hx := C0.1.1
  have hb := C0.1.2.1
  have hl : lv_has ls 2 [(0, .ref m), (1, .int p)] := hl
  refine lv_aload_n hx hb dX9_loseOvers_0 rfl (lv_at hl 0 rfl) ?_
  refine lv_iload_n hx hb dX9_loseOvers_1 rfl (lv_at hl 1 rfl) ?_
  refine lv_iconst (v := 1) hx hb dX9_loseOvers_2 (by decide) ?_
  refine lv_bipush (v := 19) hx hb dX9_loseOvers_3 (by decide) ?_
  refine g_cI C0 G (g_runS C0 G (rest := [.ref m]) (k_X9_isIn hfl p 1 19) hY_X9_isIn mm_X9_76 ms_X9_isIn ⟨(Nat.le_of_ble_eq_true rfl), (Nat.le_of_ble_eq_true rfl)⟩ rfl hl.1 rfl (Nat.le_of_ble_eq_true rfl) dX9_loseOvers_5 ⟨(Nat.le_of_ble_eq_true rfl), (Nat.le_of_ble_eq_true rfl)⟩) (kx_no rfl) (fun r3 u2 H locs hp1 G => ?_)
  obtain ⟨b4, eu2⟩ := hp1
  rw [eu2] at G
  rcases b4 with ⟨rfl, c5⟩ | ⟨rfl, c5⟩
  · refine lv_if_eq (tgt := 15) hx hb dX9_loseOvers_8 (by decide) (fun c6 => absurd c6 (by decide)) (fun _ => ?_)
    refine lv_iconst (v := 0) hx hb dX9_loseOvers_11 (by decide) ?_
    refine lv_goto (tgt := 16) hx hb dX9_loseOvers_12 (by decide) ?_
    refine g_put C0 G h_m rfl hiX9 tyX9 tyX9_ok nmX9 0 (by decide) mf_X9_55 rfl rfl rfl rfl (Nat.le_of_ble_eq_true rfl) dX9_loseOvers_16 (fun H locs f7 hf7 G => ?_)
    have k8 : f7 m = some (.inr (11, [.int 0, .int 0, .ref v, .ref im, .ref kp, .ref pa, .ref de, .ref ide, .int 0, .int 0, .ref tx, .int 0, .int (-1), .int (-1), .ref pt, .int 0, .int 0, .int 0, .ref so, .ref mo, .ref wh, .ref pf])) := hus hf7
    refine lv_aload_n hx hb dX9_loseOvers_19 rfl (lv_at hl 0 rfl) ?_
    refine g_get C0 G k8 rfl hiX9 0 (by decide) mf_X9_55 rfl dX9_loseOvers_20 ?_
    refine lv_iconst (v := 1) hx hb dX9_loseOvers_23 (by decide) ?_
    refine lv_icmp_ne (tgt := 31) hx hb dX9_loseOvers_24 (by decide) (fun _ => ?_) (fun c9 => absurd c9 (by decide))
    refine lv_aload_n hx hb dX9_loseOvers_31 rfl (lv_at hl 0 rfl) ?_
    refine lv_iconst (v := 2) hx hb dX9_loseOvers_32 (by decide) ?_
    refine lv_bipush (v := 6) hx hb dX9_loseOvers_33 (by decide) ?_
    refine lv_iload_n hx hb dX9_loseOvers_35 rfl (lv_at hl 1 rfl) ?_
    refine lv_iconst (v := 0) hx hb dX9_loseOvers_36 (by decide) ?_
    refine lv_iconst (v := 0) hx hb dX9_loseOvers_37 (by decide) ?_
    refine lv_iconst (v := 0) hx hb dX9_loseOvers_38 (by decide) ?_
    refine lv_iconst (v := 0) hx hb dX9_loseOvers_39 (by decide) ?_
    have k10 : f7 v = some (.inl (cy 0, 6441, .inl (fun _ => 0))) := hup hf7 (hne h_v h_m (by intro q; cases q)) h_v
    refine g_cI C0 G (g_runV C0 G (rest := []) (k_X9_commands hfl 2 6 p 0 0 0 0 k8 k10) k8 rfl hY_X9_commands mm_X9_179 mi_X9_commands ml_X9_commands ⟨(Nat.le_of_ble_eq_true rfl), (Nat.le_of_ble_eq_true rfl)⟩ rfl hl.1 rfl (Nat.le_of_ble_eq_true rfl) dX9_loseOvers_40 ⟨(Nat.le_of_ble_eq_true rfl), (Nat.le_of_ble_eq_true rfl)⟩) (kx_no rfl) (fun r13 u12 H locs hp11 G => ?_)
    exact g_iret C0 G hr dX9_loseOvers_43 (Nat.le_of_ble_eq_true rfl) (Nat.le_of_ble_eq_true rfl) (by exact Or.inl (⟨(by first | assumption | (simp_all; done) | (simp only [Int32.lt_iff_toInt_lt, Int32.le_iff_toInt_le] at *; omega)), hp11⟩))
  · refine lv_if_eq (tgt := 15) hx hb dX9_loseOvers_8 (by decide) (fun _ => ?_) (fun c14 => absurd (by decide) c14)
    refine lv_iconst (v := 1) hx hb dX9_loseOvers_15 (by decide) ?_
    refine g_put C0 G h_m rfl hiX9 tyX9 tyX9_ok nmX9 0 (by decide) mf_X9_55 rfl rfl rfl rfl (Nat.le_of_ble_eq_true rfl) dX9_loseOvers_16 (fun H locs f15 hf15 G => ?_)
    have k16 : f15 m = some (.inr (11, [.int 1, .int 0, .ref v, .ref im, .ref kp, .ref pa, .ref de, .ref ide, .int 0, .int 0, .ref tx, .int 0, .int (-1), .int (-1), .ref pt, .int 0, .int 0, .int 0, .ref so, .ref mo, .ref wh, .ref pf])) := hus hf15
    refine lv_aload_n hx hb dX9_loseOvers_19 rfl (lv_at hl 0 rfl) ?_
    refine g_get C0 G k16 rfl hiX9 0 (by decide) mf_X9_55 rfl dX9_loseOvers_20 ?_
    refine lv_iconst (v := 1) hx hb dX9_loseOvers_23 (by decide) ?_
    refine lv_icmp_ne (tgt := 31) hx hb dX9_loseOvers_24 (by decide) (fun c17 => absurd (by decide) c17) (fun _ => ?_)
    refine lv_iconst (v := 0) hx hb dX9_loseOvers_27 (by decide) ?_
    refine lv_goto (tgt := 43) hx hb dX9_loseOvers_28 (by decide) ?_
    exact g_iret C0 G hr dX9_loseOvers_43 (Nat.le_of_ble_eq_true rfl) (Nat.le_of_ble_eq_true rfl) (by exact Or.inr (⟨(by first | assumption | (simp_all; done) | (simp only [Int32.lt_iff_toInt_lt, Int32.le_iff_toInt_le] at *; omega)), ⟨_, k16⟩⟩))
set_option maxRecDepth 100000 in
theorem k_X9_play {l : Launch} (hfl : l.stackTraces = false) {D : va_G} {cy : Nat → ClassId} {f : Hf} {sz : Nat} {m v im kp pa de ide tx pt so mo wh pf : Nat} (h_m : f m = some (.inr (11, [.int 0, .int 0, .ref v, .ref im, .ref kp, .ref pa, .ref de, .ref ide, .int 0, .int 0, .ref tx, .int 0, .int (-1), .int (-1), .ref pt, .int 0, .int 0, .int 0, .ref so, .ref mo, .ref wh, .ref pf]))) (h_v : f v = some (.inl (cy 0, 6441, .inl (fun _ => 0)))) : hMet l yX9_play cX9_play 5 (some .int) { frames := 1, cells := 0, slots := 0, locals := 21 } D (hTy cy) f sz [.ref m] (hQi (fun r u => hT u m 1) D f sz) hNo := by
  refine h_enter (by decide) hfl (Nat.le_of_ble_eq_true rfl) ?_
  intro p9 e9 s9 m9 b9 t9 c9 hsz C0 hr hnm G ls hl
  have hx := C0.1.1
  have hb := C0.1.2.1
  have hl : lv_has ls 5 [(0, .ref m)] := hl
  refine lv_aload_n hx hb dX9_play_0 rfl (lv_at hl 0 rfl) ?_
  refine lv_iconst (v := 0) hx hb dX9_play_1 (by decide) ?_
  refine g_put C0 G h_m rfl hiX9 tyX9 tyX9_ok nmX9 0 (by decide) mf_X9_55 rfl rfl rfl rfl (Nat.le_of_ble_eq_true rfl) dX9_play_2 (fun H locs f1 hf1 G => ?_)
  have k2 : f1 m = some (.inr (11, [.int 0, .int 0, .ref v, .ref im, .ref kp, .ref pa, .ref de, .ref ide, .int 0, .int 0, .ref tx, .int 0, .int (-1), .int (-1), .ref pt, .int 0, .int 0, .int 0, .ref so, .ref mo, .ref wh, .ref pf])) := hus hf1
  refine lv_aload_n hx hb dX9_play_5 rfl (lv_at hl 0 rfl) ?_
  refine lv_iconst (v := 0) hx hb dX9_play_6 (by decide) ?_
  refine g_put C0 G k2 rfl hiX9 tyX9 tyX9_ok nmX9 15 (by decide) mf_X9_197 rfl rfl rfl rfl (Nat.le_of_ble_eq_true rfl) dX9_play_7 (fun H locs f3 hf3 G => ?_)
  have k4 : f3 m = some (.inr (11, [.int 0, .int 0, .ref v, .ref im, .ref kp, .ref pa, .ref de, .ref ide, .int 0, .int 0, .ref tx, .int 0, .int (-1), .int (-1), .ref pt, .int 0, .int 0, .int 0, .ref so, .ref mo, .ref wh, .ref pf])) := hus hf3
  refine lv_aload_n hx hb dX9_play_10 rfl (lv_at hl 0 rfl) ?_
  refine lv_iconst (v := 0) hx hb dX9_play_11 (by decide) ?_
  refine g_put C0 G k4 rfl hiX9 tyX9 tyX9_ok nmX9 16 (by decide) mf_X9_194 rfl rfl rfl rfl (Nat.le_of_ble_eq_true rfl) dX9_play_12 (fun H locs f5 hf5 G => ?_)
  have k6 : f5 m = some (.inr (11, [.int 0, .int 0, .ref v, .ref im, .ref kp, .ref pa, .ref de, .ref ide, .int 0, .int 0, .ref tx, .int 0, .int (-1), .int (-1), .ref pt, .int 0, .int 0, .int 0, .ref so, .ref mo, .ref wh, .ref pf])) := hus hf5
  refine lv_aload_n hx hb dX9_play_15 rfl (lv_at hl 0 rfl) ?_
  refine g_get C0 G k6 rfl hiX9 11 (by decide) mf_X9_191 rfl dX9_play_16 ?_
  refine lv_if_le (tgt := 26) hx hb dX9_play_19 (by decide) (fun _ => ?_) (fun c7 => absurd (by decide) c7)
  refine lv_iconst (v := 0) hx hb dX9_play_26 (by decide) ?_
  refine lv_istore_n (lv' := [(1, .int 0), (0, .ref m)]) hx hb dX9_play_27 rfl hl (by decide) rfl (fun ls hl => ?_)
  refine lv_iload_n hx hb dX9_play_28 rfl (lv_at hl 0 rfl) ?_
  refine lv_if_eq (tgt := 51) hx hb dX9_play_29 (by decide) (fun _ => ?_) (fun c8 => absurd (by decide) c8)
  refine lv_aload_n hx hb dX9_play_51 rfl (lv_at hl 1 rfl) ?_
  refine lv_iconst (v := 0) hx hb dX9_play_52 (by decide) ?_
  refine g_put C0 G k6 rfl hiX9 tyX9 tyX9_ok nmX9 11 (by decide) mf_X9_191 rfl rfl rfl rfl (Nat.le_of_ble_eq_true rfl) dX9_play_53 (fun H locs f9 hf9 G => ?_)
  have k10 : f9 m = some (.inr (11, [.int 0, .int 0, .ref v, .ref im, .ref kp, .ref pa, .ref de, .ref ide, .int 0, .int 0, .ref tx, .int 0, .int (-1), .int (-1), .ref pt, .int 0, .int 0, .int 0, .ref so, .ref mo, .ref wh, .ref pf])) := hus hf9
  refine lv_iload_n hx hb dX9_play_56 rfl (lv_at hl 0 rfl) ?_
  refine lv_if_ne (tgt := 74) hx hb dX9_play_57 (by decide) (fun c11 => absurd (by decide) c11) (fun _ => ?_)
  refine lv_aload_n hx hb dX9_play_60 rfl (lv_at hl 1 rfl) ?_
  refine lv_aload_n hx hb dX9_play_61 rfl (lv_at hl 1 rfl) ?_
  refine g_get C0 G k10 rfl hiX9 16 (by decide) mf_X9_194 rfl dX9_play_62 ?_
  refine g_put C0 G k10 rfl hiX9 tyX9 tyX9_ok nmX9 12 (by decide) mf_X9_32 rfl rfl rfl rfl (Nat.le_of_ble_eq_true rfl) dX9_play_65 (fun H locs f12 hf12 G => ?_)
  have k13 : f12 m = some (.inr (11, [.int 0, .int 0, .ref v, .ref im, .ref kp, .ref pa, .ref de, .ref ide, .int 0, .int 0, .ref tx, .int 0, .int 0, .int (-1), .ref pt, .int 0, .int 0, .int 0, .ref so, .ref mo, .ref wh, .ref pf])) := hus hf12
  refine lv_aload_n hx hb dX9_play_68 rfl (lv_at hl 1 rfl) ?_
  refine lv_iconst (v := 1) hx hb dX9_play_69 (by decide) ?_
  refine g_cI C0 G (g_runV C0 G (rest := []) (k_X9_no hfl 1 k13) k13 rfl hY_X9_no mm_X9_169 mi_X9_no ml_X9_no ⟨(Nat.le_of_ble_eq_true rfl), (Nat.le_of_ble_eq_true rfl)⟩ rfl hl.1 rfl (Nat.le_of_ble_eq_true rfl) dX9_play_70 ⟨(Nat.le_of_ble_eq_true rfl), (Nat.le_of_ble_eq_true rfl)⟩) (kx_no rfl) (fun r16 u15 H locs hp14 G => ?_)
  obtain ⟨rfl, e17⟩ := hp14
  have k18 : u15 m = some (.inr (11, [.int 1, .int 0, .ref v, .ref im, .ref kp, .ref pa, .ref de, .ref ide, .int 0, .int 0, .ref tx, .int 0, .int 0, .int (-1), .ref pt, .int 0, .int 0, .int 0, .ref so, .ref mo, .ref wh, .ref pf])) := hus e17
  exact g_iret C0 G hr dX9_play_73 (Nat.le_of_ble_eq_true rfl) (Nat.le_of_ble_eq_true rfl) (by exact ⟨_, k18⟩)
set_option maxRecDepth 100000 in
theorem k_X9_errorPosition {l : Launch} (hfl : l.stackTraces = false) {D : va_G} {cy : Nat → ClassId} {f : Hf} {sz : Nat} {m v im kp pa de ide tx pt so mo wh pf : Nat} (h_m : f m = some (.inr (11, [.int 0, .int 0, .ref v, .ref im, .ref kp, .ref pa, .ref de, .ref ide, .int 0, .int 0, .ref tx, .int 0, .int (-1), .int (-1), .ref pt, .int 0, .int 0, .int 0, .ref so, .ref mo, .ref wh, .ref pf]))) : hMet l yX9_errorPosition cX9_errorPosition 1 (some .int) { frames := 0, cells := 0, slots := 0, locals := 0 } D (hTy cy) f sz [.ref m] (hQi (fun r u => hT u m 1) D f sz) hNo := by
  refine h_enter (by decide) hfl (Nat.le_of_ble_eq_true rfl) ?_
  intro p9 e9 s9 m9 b9 t9 c9 hsz C0 hr hnm G ls hl
  have hx := C0.1.1
  have hb := C0.1.2.1
  have hl : lv_has ls 1 [(0, .ref m)] := hl
  refine lv_aload_n hx hb dX9_errorPosition_0 rfl (lv_at hl 0 rfl) ?_
  refine lv_aload_n hx hb dX9_errorPosition_1 rfl (lv_at hl 0 rfl) ?_
  refine g_get C0 G h_m rfl hiX9 12 (by decide) mf_X9_32 rfl dX9_errorPosition_2 ?_
  refine lv_if_ge (tgt := 12) hx hb dX9_errorPosition_5 (by decide) (fun c1 => absurd c1 (by decide)) (fun _ => ?_)
  refine lv_iconst (v := 1) hx hb dX9_errorPosition_8 (by decide) ?_
  refine lv_goto (tgt := 13) hx hb dX9_errorPosition_9 (by decide) ?_
  refine g_put C0 G h_m rfl hiX9 tyX9 tyX9_ok nmX9 0 (by decide) mf_X9_55 rfl rfl rfl rfl (Nat.le_of_ble_eq_true rfl) dX9_errorPosition_13 (fun H locs f2 hf2 G => ?_)
  have k3 : f2 m = some (.inr (11, [.int 1, .int 0, .ref v, .ref im, .ref kp, .ref pa, .ref de, .ref ide, .int 0, .int 0, .ref tx, .int 0, .int (-1), .int (-1), .ref pt, .int 0, .int 0, .int 0, .ref so, .ref mo, .ref wh, .ref pf])) := hus hf2
  refine lv_aload_n hx hb dX9_errorPosition_16 rfl (lv_at hl 0 rfl) ?_
  refine g_get C0 G k3 rfl hiX9 12 (by decide) mf_X9_32 rfl dX9_errorPosition_17 ?_
  refine lv_if_ge (tgt := 27) hx hb dX9_errorPosition_20 (by decide) (fun c4 => absurd c4 (by decide)) (fun _ => ?_)
  refine lv_iconst (v := 0) hx hb dX9_errorPosition_23 (by decide) ?_
  refine lv_goto (tgt := 31) hx hb dX9_errorPosition_24 (by decide) ?_
  exact g_iret C0 G hr dX9_errorPosition_31 (Nat.le_of_ble_eq_true rfl) (Nat.le_of_ble_eq_true rfl) (by exact ⟨_, k3⟩)
set_option maxRecDepth 100000 in
theorem k_X9_refused {l : Launch} (hfl : l.stackTraces = false) {D : va_G} {cy : Nat → ClassId} {f : Hf} {sz : Nat} {m v im kp pa de ide tx pt so mo wh pf : Nat} (h_m : f m = some (.inr (11, [.int 0, .int 0, .ref v, .ref im, .ref kp, .ref pa, .ref de, .ref ide, .int 0, .int 0, .ref tx, .int 0, .int (-1), .int (-1), .ref pt, .int 0, .int 0, .int 0, .ref so, .ref mo, .ref wh, .ref pf]))) : hMet l yX9_refused cX9_refused 1 (some .int) { frames := 0, cells := 0, slots := 0, locals := 0 } D (hTy cy) f sz [.ref m] (hQi (fun r u => hT u m 1) D f sz) hNo := by
  refine h_enter (by decide) hfl (Nat.le_of_ble_eq_true rfl) ?_
  intro p9 e9 s9 m9 b9 t9 c9 hsz C0 hr hnm G ls hl
  have hx := C0.1.1
  have hb := C0.1.2.1
  have hl : lv_has ls 1 [(0, .ref m)] := hl
  refine lv_aload_n hx hb dX9_refused_0 rfl (lv_at hl 0 rfl) ?_
  refine lv_aload_n hx hb dX9_refused_1 rfl (lv_at hl 0 rfl) ?_
  refine g_get C0 G h_m rfl hiX9 13 (by decide) mf_X9_36 rfl dX9_refused_2 ?_
  refine lv_if_ge (tgt := 12) hx hb dX9_refused_5 (by decide) (fun c1 => absurd c1 (by decide)) (fun _ => ?_)
  refine lv_iconst (v := 1) hx hb dX9_refused_8 (by decide) ?_
  refine lv_goto (tgt := 13) hx hb dX9_refused_9 (by decide) ?_
  refine g_put C0 G h_m rfl hiX9 tyX9 tyX9_ok nmX9 0 (by decide) mf_X9_55 rfl rfl rfl rfl (Nat.le_of_ble_eq_true rfl) dX9_refused_13 (fun H locs f2 hf2 G => ?_)
  have k3 : f2 m = some (.inr (11, [.int 1, .int 0, .ref v, .ref im, .ref kp, .ref pa, .ref de, .ref ide, .int 0, .int 0, .ref tx, .int 0, .int (-1), .int (-1), .ref pt, .int 0, .int 0, .int 0, .ref so, .ref mo, .ref wh, .ref pf])) := hus hf2
  refine lv_aload_n hx hb dX9_refused_16 rfl (lv_at hl 0 rfl) ?_
  refine g_get C0 G k3 rfl hiX9 13 (by decide) mf_X9_36 rfl dX9_refused_17 ?_
  refine lv_if_ge (tgt := 27) hx hb dX9_refused_20 (by decide) (fun c4 => absurd c4 (by decide)) (fun _ => ?_)
  refine lv_iconst (v := 0) hx hb dX9_refused_23 (by decide) ?_
  refine lv_goto (tgt := 31) hx hb dX9_refused_24 (by decide) ?_
  exact g_iret C0 G hr dX9_refused_31 (Nat.le_of_ble_eq_true rfl) (Nat.le_of_ble_eq_true rfl) (by exact ⟨_, k3⟩)
set_option maxRecDepth 100000 in
theorem k_X9_hasMatch {l : Launch} (hfl : l.stackTraces = false) {D : va_G} {cy : Nat → ClassId} {f : Hf} {sz : Nat} {m v im kp pa de ide tx pt so mo wh pf : Nat} {c_th c_re c_un c_hi c_tn c_fa c_rf c_ps c_pl c_to : Int32} (code : Int32) (h_m : f m = some (.inr (11, [.int c_th, .int c_re, .ref v, .ref im, .ref kp, .ref pa, .ref de, .ref ide, .int c_un, .int c_hi, .ref tx, .int c_tn, .int c_fa, .int c_rf, .ref pt, .int c_ps, .int c_pl, .int c_to, .ref so, .ref mo, .ref wh, .ref pf]))) (h_v : f v = some (.inl (cy 0, 6441, .inl (fun _ => 0)))) : hMet l yX9_hasMatch cX9_hasMatch 2 (some .boolean) { frames := 0, cells := 0, slots := 0, locals := 0 } D (hTy cy) f sz [.ref m, .int code] (hQi (fun r u => r = 0 ∧ u = va_up f m (some (.inr (11, [.int code, .int 1, .ref v, .ref im, .ref kp, .ref pa, .ref de, .ref ide, .int c_un, .int c_hi, .ref tx, .int c_tn, .int c_fa, .int c_rf, .ref pt, .int c_ps, .int c_pl, .int c_to, .ref so, .ref mo, .ref wh, .ref pf])))) D f sz) hNo := by
  refine h_enter (by decide) hfl (Nat.le_of_ble_eq_true rfl) ?_
  intro p9 e9 s9 m9 b9 t9 c9 hsz C0 hr hnm G ls hl
  have hx := C0.1.1
  have hb := C0.1.2.1
  have hl : lv_has ls 2 [(0, .ref m), (1, .int code)] := hl
  refine lv_aload_n hx hb dX9_hasMatch_0 rfl (lv_at hl 0 rfl) ?_
  refine g_get C0 G h_m rfl hiX9 2 (by decide) mf_X9_9 rfl dX9_hasMatch_1 ?_
  refine lv_iconst (v := 0) hx hb dX9_hasMatch_4 (by decide) ?_
  refine g_iald C0 G h_v 0 rfl (by unfold vp_in; decide) dX9_hasMatch_5 ?_
  refine lv_topv (v := 0) (rfl) ?_
  refine lv_iconst (v := 1) hx hb dX9_hasMatch_6 (by decide) ?_
  refine lv_icmp_ne (tgt := 12) hx hb dX9_hasMatch_7 (by decide) (fun _ => ?_) (fun c1 => absurd c1 (by decide))
  refine lv_aload_n hx hb dX9_hasMatch_12 rfl (lv_at hl 0 rfl) ?_
  refine lv_iconst (v := 1) hx hb dX9_hasMatch_13 (by decide) ?_
  refine g_put C0 G h_m rfl hiX9 tyX9 tyX9_ok nmX9 1 (by decide) mf_X9_166 rfl rfl rfl rfl (Nat.le_of_ble_eq_true rfl) dX9_hasMatch_14 (fun H locs f2 hf2 G => ?_)
  have k3 : f2 m = some (.inr (11, [.int c_th, .int 1, .ref v, .ref im, .ref kp, .ref pa, .ref de, .ref ide, .int c_un, .int c_hi, .ref tx, .int c_tn, .int c_fa, .int c_rf, .ref pt, .int c_ps, .int c_pl, .int c_to, .ref so, .ref mo, .ref wh, .ref pf])) := hus hf2
  refine lv_aload_n hx hb dX9_hasMatch_17 rfl (lv_at hl 0 rfl) ?_
  refine lv_iload_n hx hb dX9_hasMatch_18 rfl (lv_at hl 1 rfl) ?_
  refine g_put C0 G k3 rfl hiX9 tyX9 tyX9_ok nmX9 0 (by decide) mf_X9_55 rfl rfl rfl rfl (Nat.le_of_ble_eq_true rfl) dX9_hasMatch_19 (fun H locs f4 hf4 G => ?_)
  have k5 : f4 m = some (.inr (11, [.int code, .int 1, .ref v, .ref im, .ref kp, .ref pa, .ref de, .ref ide, .int c_un, .int c_hi, .ref tx, .int c_tn, .int c_fa, .int c_rf, .ref pt, .int c_ps, .int c_pl, .int c_to, .ref so, .ref mo, .ref wh, .ref pf])) := hus hf4
  refine lv_iconst (v := 0) hx hb dX9_hasMatch_22 (by decide) ?_
  exact g_zret C0 G hr dX9_hasMatch_23 rfl (Nat.le_of_ble_eq_true rfl) (Nat.le_of_ble_eq_true rfl) (by exact ⟨rfl, (by rw [hf4, hf2]; simp only [hup2]; try rfl)⟩)
set_option maxRecDepth 100000 in
theorem k_X9_now {l : Launch} (hfl : l.stackTraces = false) {D : va_G} {cy : Nat → ClassId} {f : Hf} {sz : Nat} {m v im kp pa de ide tx pt so mo wh pf : Nat} (p : Int32) (h_m : f m = some (.inr (11, [.int 0, .int 0, .ref v, .ref im, .ref kp, .ref pa, .ref de, .ref ide, .int 0, .int 0, .ref tx, .int 0, .int (-1), .int (-1), .ref pt, .int 0, .int 0, .int 0, .ref so, .ref mo, .ref wh, .ref pf]))) (h_v : f v = some (.inl (cy 0, 6441, .inl (fun _ => 0)))) : hMet l yX9_now cX9_now 3 (some .int) { frames := 1, cells := 0, slots := 0, locals := 22 } D (hTy cy) f sz [.ref m, .int p] (hQi (fun r u => ((0 ≤ p ∧ p ≤ 8) ∧ hT u m 2) ∨ ((¬ (0 ≤ p ∧ p ≤ 8)) ∧ hT u m 1)) D f sz) hNo := by
  refine h_enter (by decide) hfl (Nat.le_of_ble_eq_true rfl) ?_
  intro p9 e9 s9 m9 b9 t9 c9 hsz C0 hr hnm G ls hl
  have hx := C0.1.1
  have hb := C0.1.2.1
  have hl : lv_has ls 3 [(0, .ref m), (1, .int p)] := hl
  refine lv_aload_n hx hb dX9_now_0 rfl (lv_at hl 0 rfl) ?_
  refine lv_iload_n hx hb dX9_now_1 rfl (lv_at hl 1 rfl) ?_
  refine lv_iconst (v := 0) hx hb dX9_now_2 (by decide) ?_
  refine lv_bipush (v := 8) hx hb dX9_now_3 (by decide) ?_
  refine g_cI C0 G (g_runS C0 G (rest := [.ref m]) (k_X9_isIn hfl p 0 8) hY_X9_isIn mm_X9_76 ms_X9_isIn ⟨(Nat.le_of_ble_eq_true rfl), (Nat.le_of_ble_eq_true rfl)⟩ rfl hl.1 rfl (Nat.le_of_ble_eq_true rfl) dX9_now_5 ⟨(Nat.le_of_ble_eq_true rfl), (Nat.le_of_ble_eq_true rfl)⟩) (kx_no rfl) (fun r3 u2 H locs hp1 G => ?_)
  obtain ⟨b4, eu2⟩ := hp1
  rw [eu2] at G
  rcases b4 with ⟨rfl, c5⟩ | ⟨rfl, c5⟩
  · refine lv_if_eq (tgt := 15) hx hb dX9_now_8 (by decide) (fun c6 => absurd c6 (by decide)) (fun _ => ?_)
    refine lv_iconst (v := 0) hx hb dX9_now_11 (by decide) ?_
    refine lv_goto (tgt := 16) hx hb dX9_now_12 (by decide) ?_
    refine g_put C0 G h_m rfl hiX9 tyX9 tyX9_ok nmX9 0 (by decide) mf_X9_55 rfl rfl rfl rfl (Nat.le_of_ble_eq_true rfl) dX9_now_16 (fun H locs f7 hf7 G => ?_)
    have k8 : f7 m = some (.inr (11, [.int 0, .int 0, .ref v, .ref im, .ref kp, .ref pa, .ref de, .ref ide, .int 0, .int 0, .ref tx, .int 0, .int (-1), .int (-1), .ref pt, .int 0, .int 0, .int 0, .ref so, .ref mo, .ref wh, .ref pf])) := hus hf7
    refine lv_aload_n hx hb dX9_now_19 rfl (lv_at hl 0 rfl) ?_
    refine g_get C0 G k8 rfl hiX9 0 (by decide) mf_X9_55 rfl dX9_now_20 ?_
    refine lv_iconst (v := 1) hx hb dX9_now_23 (by decide) ?_
    refine lv_icmp_eq (tgt := 35) hx hb dX9_now_24 (by decide) (fun c9 => absurd c9 (by decide)) (fun _ => ?_)
    refine lv_aload_n hx hb dX9_now_27 rfl (lv_at hl 0 rfl) ?_
    refine lv_iconst (v := 2) hx hb dX9_now_28 (by decide) ?_
    have k10 : f7 v = some (.inl (cy 0, 6441, .inl (fun _ => 0))) := hup hf7 (hne h_v h_m (by intro q; cases q)) h_v
    refine g_cI C0 G (g_runV C0 G (rest := []) (k_X9_hasMatch hfl 2 k8 k10) k8 rfl hY_X9_hasMatch mm_X9_221 mi_X9_hasMatch ml_X9_hasMatch ⟨(Nat.le_of_ble_eq_true rfl), (Nat.le_of_ble_eq_true rfl)⟩ rfl hl.1 rfl (Nat.le_of_ble_eq_true rfl) dX9_now_29 ⟨(Nat.le_of_ble_eq_true rfl), (Nat.le_of_ble_eq_true rfl)⟩) (kx_no rfl) (fun r13 u12 H locs hp11 G => ?_)
    obtain ⟨rfl, e14⟩ := hp11
    have k15 : u12 m = some (.inr (11, [.int 2, .int 1, .ref v, .ref im, .ref kp, .ref pa, .ref de, .ref ide, .int 0, .int 0, .ref tx, .int 0, .int (-1), .int (-1), .ref pt, .int 0, .int 0, .int 0, .ref so, .ref mo, .ref wh, .ref pf])) := hus e14
    refine lv_if_ne (tgt := 37) hx hb dX9_now_32 (by decide) (fun c16 => absurd (by decide) c16) (fun _ => ?_)
    refine lv_iconst (v := 0) hx hb dX9_now_35 (by decide) ?_
    exact g_iret C0 G hr dX9_now_36 (Nat.le_of_ble_eq_true rfl) (Nat.le_of_ble_eq_true rfl) (by exact Or.inl (⟨(by first | assumption | (simp_all; done) | (simp only [Int32.lt_iff_toInt_lt, Int32.le_iff_toInt_le] at *; omega)), ⟨_, k15⟩⟩))
  · refine lv_if_eq (tgt := 15) hx hb dX9_now_8 (by decide) (fun _ => ?_) (fun c17 => absurd (by decide) c17)
    refine lv_iconst (v := 1) hx hb dX9_now_15 (by decide) ?_
    refine g_put C0 G h_m rfl hiX9 tyX9 tyX9_ok nmX9 0 (by decide) mf_X9_55 rfl rfl rfl rfl (Nat.le_of_ble_eq_true rfl) dX9_now_16 (fun H locs f18 hf18 G => ?_)
    have k19 : f18 m = some (.inr (11, [.int 1, .int 0, .ref v, .ref im, .ref kp, .ref pa, .ref de, .ref ide, .int 0, .int 0, .ref tx, .int 0, .int (-1), .int (-1), .ref pt, .int 0, .int 0, .int 0, .ref so, .ref mo, .ref wh, .ref pf])) := hus hf18
    refine lv_aload_n hx hb dX9_now_19 rfl (lv_at hl 0 rfl) ?_
    refine g_get C0 G k19 rfl hiX9 0 (by decide) mf_X9_55 rfl dX9_now_20 ?_
    refine lv_iconst (v := 1) hx hb dX9_now_23 (by decide) ?_
    refine lv_icmp_eq (tgt := 35) hx hb dX9_now_24 (by decide) (fun _ => ?_) (fun c20 => absurd (by decide) c20)
    refine lv_iconst (v := 0) hx hb dX9_now_35 (by decide) ?_
    exact g_iret C0 G hr dX9_now_36 (Nat.le_of_ble_eq_true rfl) (Nat.le_of_ble_eq_true rfl) (by exact Or.inr (⟨(by first | assumption | (simp_all; done) | (simp only [Int32.lt_iff_toInt_lt, Int32.le_iff_toInt_le] at *; omega)), ⟨_, k19⟩⟩))
set_option maxRecDepth 100000 in
theorem k_X9_isInnings {l : Launch} (hfl : l.stackTraces = false) {D : va_G} {cy : Nat → ClassId} {f : Hf} {sz : Nat} {m v im kp pa de ide tx pt so mo wh pf : Nat} {c_th c_re c_un c_hi c_tn c_fa c_rf c_ps c_pl c_to : Int32} (i : Int32) (h_m : f m = some (.inr (11, [.int c_th, .int c_re, .ref v, .ref im, .ref kp, .ref pa, .ref de, .ref ide, .int c_un, .int c_hi, .ref tx, .int c_tn, .int c_fa, .int c_rf, .ref pt, .int c_ps, .int c_pl, .int c_to, .ref so, .ref mo, .ref wh, .ref pf]))) (h_v : f v = some (.inl (cy 0, 6441, .inl (fun _ => 0)))) : hMet l yX9_isInnings cX9_isInnings 2 (some .boolean) { frames := 0, cells := 0, slots := 0, locals := 0 } D (hTy cy) f sz [.ref m, .int i] (hQi (fun r u => r = 0 ∧ u = f) D f sz) hNo := by
  refine h_enter (by decide) hfl (Nat.le_of_ble_eq_true rfl) ?_
  intro p9 e9 s9 m9 b9 t9 c9 hsz C0 hr hnm G ls hl
  have hx := C0.1.1
  have hb := C0.1.2.1
  have hl : lv_has ls 2 [(0, .ref m), (1, .int i)] := hl
  refine lv_aload_n hx hb dX9_isInnings_0 rfl (lv_at hl 0 rfl) ?_
  refine g_get C0 G h_m rfl hiX9 2 (by decide) mf_X9_9 rfl dX9_isInnings_1 ?_
  refine lv_iconst (v := 0) hx hb dX9_isInnings_4 (by decide) ?_
  refine g_iald C0 G h_v 0 rfl (by unfold vp_in; decide) dX9_isInnings_5 ?_
  refine lv_topv (v := 0) (rfl) ?_
  refine lv_iconst (v := 1) hx hb dX9_isInnings_6 (by decide) ?_
  refine lv_icmp_ne (tgt := 28) hx hb dX9_isInnings_7 (by decide) (fun _ => ?_) (fun c1 => absurd c1 (by decide))
  refine lv_iconst (v := 0) hx hb dX9_isInnings_28 (by decide) ?_
  exact g_zret C0 G hr dX9_isInnings_29 rfl (Nat.le_of_ble_eq_true rfl) (Nat.le_of_ble_eq_true rfl) (by exact ⟨rfl, rfl⟩)
set_option maxRecDepth 100000 in
theorem k_X9_asks {l : Launch} (hfl : l.stackTraces = false) {D : va_G} {cy : Nat → ClassId} {f : Hf} {sz : Nat} {m v im kp pa de ide tx pt so mo wh pf : Nat} {c_th c_re c_un c_hi c_tn c_fa c_rf c_ps c_pl c_to : Int32} (is9 wt mo9 pl9 : Int32) (h_m : f m = some (.inr (11, [.int c_th, .int c_re, .ref v, .ref im, .ref kp, .ref pa, .ref de, .ref ide, .int c_un, .int c_hi, .ref tx, .int c_tn, .int c_fa, .int c_rf, .ref pt, .int c_ps, .int c_pl, .int c_to, .ref so, .ref mo, .ref wh, .ref pf]))) (hi9 : is9 = 0) : hMet l yX9_asks cX9_asks 5 (some .int) { frames := 0, cells := 0, slots := 0, locals := 0 } D (hTy cy) f sz [.ref m, .int is9, .int wt, .int mo9, .int pl9] (hQi (fun r u => hT u m 1) D f sz) hNo := by
  refine h_enter (by decide) hfl (Nat.le_of_ble_eq_true rfl) ?_
  intro p9 e9 s9 m9 b9 t9 c9 hsz C0 hr hnm G ls hl
  have hx := C0.1.1
  have hb := C0.1.2.1
  have hl : lv_has ls 5 [(0, .ref m), (1, .int is9), (2, .int wt), (3, .int mo9), (4, .int pl9)] := hl
  refine lv_aload_n hx hb dX9_asks_0 rfl (lv_at hl 0 rfl) ?_
  refine lv_iload_n hx hb dX9_asks_1 rfl (lv_at hl 1 rfl) ?_
  refine lv_if_ne (tgt := 9) hx hb dX9_asks_2 (by decide) (fun c1 => absurd (hi9) c1) (fun _ => ?_)
  refine lv_iconst (v := 1) hx hb dX9_asks_5 (by decide) ?_
  refine lv_goto (tgt := 23) hx hb dX9_asks_6 (by decide) ?_
  refine g_put C0 G h_m rfl hiX9 tyX9 tyX9_ok nmX9 0 (by decide) mf_X9_55 rfl rfl rfl rfl (Nat.le_of_ble_eq_true rfl) dX9_asks_23 (fun H locs f2 hf2 G => ?_)
  have k3 : f2 m = some (.inr (11, [.int 1, .int c_re, .ref v, .ref im, .ref kp, .ref pa, .ref de, .ref ide, .int c_un, .int c_hi, .ref tx, .int c_tn, .int c_fa, .int c_rf, .ref pt, .int c_ps, .int c_pl, .int c_to, .ref so, .ref mo, .ref wh, .ref pf])) := hus hf2
  refine lv_aload_n hx hb dX9_asks_26 rfl (lv_at hl 0 rfl) ?_
  refine g_get C0 G k3 rfl hiX9 0 (by decide) mf_X9_55 rfl dX9_asks_27 ?_
  refine lv_if_ne (tgt := 43) hx hb dX9_asks_30 (by decide) (fun _ => ?_) (fun c4 => absurd c4 (by decide))
  refine lv_iconst (v := 0) hx hb dX9_asks_43 (by decide) ?_
  exact g_iret C0 G hr dX9_asks_44 (Nat.le_of_ble_eq_true rfl) (Nat.le_of_ble_eq_true rfl) (by exact ⟨_, k3⟩)
set_option maxRecDepth 100000 in
theorem k_X9_innings {l : Launch} (hfl : l.stackTraces = false) {D : va_G} {cy : Nat → ClassId} {f : Hf} {sz : Nat} {m v im kp pa de ide tx pt so mo wh pf : Nat} (i wt : Int32) (h_m : f m = some (.inr (11, [.int 0, .int 0, .ref v, .ref im, .ref kp, .ref pa, .ref de, .ref ide, .int 0, .int 0, .ref tx, .int 0, .int (-1), .int (-1), .ref pt, .int 0, .int 0, .int 0, .ref so, .ref mo, .ref wh, .ref pf]))) (h_v : f v = some (.inl (cy 0, 6441, .inl (fun _ => 0)))) : hMet l yX9_innings cX9_innings 4 (some .int) { frames := 1, cells := 0, slots := 0, locals := 24 } D (hTy cy) f sz [.ref m, .int i, .int wt] (hQi (fun r u => hT u m 1) D f sz) hNo := by
  refine h_enter (by decide) hfl (Nat.le_of_ble_eq_true rfl) ?_
  intro p9 e9 s9 m9 b9 t9 c9 hsz C0 hr hnm G ls hl
  have hx := C0.1.1
  have hb := C0.1.2.1
  have hl : lv_has ls 4 [(0, .ref m), (1, .int i), (2, .int wt)] := hl
  refine lv_aload_n hx hb dX9_innings_0 rfl (lv_at hl 0 rfl) ?_
  refine lv_iload_n hx hb dX9_innings_1 rfl (lv_at hl 1 rfl) ?_
  refine g_cI C0 G (g_runV C0 G (rest := []) (k_X9_isInnings hfl i h_m h_v) h_m rfl hY_X9_isInnings mm_X9_227 mi_X9_isInnings ml_X9_isInnings ⟨(Nat.le_of_ble_eq_true rfl), (Nat.le_of_ble_eq_true rfl)⟩ rfl hl.1 rfl (Nat.le_of_ble_eq_true rfl) dX9_innings_2 ⟨(Nat.le_of_ble_eq_true rfl), (Nat.le_of_ble_eq_true rfl)⟩) (kx_no rfl) (fun r3 u2 H locs hp1 G => ?_)
  obtain ⟨rfl, eu2⟩ := hp1
  rw [eu2] at G
  refine lv_istore_n (lv' := [(3, .int 0), (0, .ref m), (1, .int i), (2, .int wt)]) hx hb dX9_innings_5 rfl hl (by decide) rfl (fun ls hl => ?_)
  refine lv_aload_n hx hb dX9_innings_6 rfl (lv_at hl 1 rfl) ?_
  refine lv_iload_n hx hb dX9_innings_7 rfl (lv_at hl 0 rfl) ?_
  refine lv_iload_n hx hb dX9_innings_8 rfl (lv_at hl 3 rfl) ?_
  refine lv_bipush (v := 7) hx hb dX9_innings_9 (by decide) ?_
  refine lv_iload_n hx hb dX9_innings_11 rfl (lv_at hl 0 rfl) ?_
  refine lv_if_eq (tgt := 33) hx hb dX9_innings_12 (by decide) (fun _ => ?_) (fun c4 => absurd (by decide) c4)
  refine lv_iconst (v := 0) hx hb dX9_innings_33 (by decide) ?_
  refine g_cI C0 G (g_runV C0 G (rest := []) (k_X9_asks hfl 0 wt 7 0 h_m rfl) h_m rfl hY_X9_asks mm_X9_230 mi_X9_asks ml_X9_asks ⟨(Nat.le_of_ble_eq_true rfl), (Nat.le_of_ble_eq_true rfl)⟩ rfl hl.1 rfl (Nat.le_of_ble_eq_true rfl) dX9_innings_34 ⟨(Nat.le_of_ble_eq_true rfl), (Nat.le_of_ble_eq_true rfl)⟩) (kx_no rfl) (fun r7 u6 H locs hp5 G => ?_)
  exact g_iret C0 G hr dX9_innings_37 (Nat.le_of_ble_eq_true rfl) (Nat.le_of_ble_eq_true rfl) (by exact hp5)
set_option maxRecDepth 100000 in
theorem k_X9_batter {l : Launch} (hfl : l.stackTraces = false) {D : va_G} {cy : Nat → ClassId} {f : Hf} {sz : Nat} {m v im kp pa de ide tx pt so mo wh pf : Nat} (i p wt : Int32) (h_m : f m = some (.inr (11, [.int 0, .int 0, .ref v, .ref im, .ref kp, .ref pa, .ref de, .ref ide, .int 0, .int 0, .ref tx, .int 0, .int (-1), .int (-1), .ref pt, .int 0, .int 0, .int 0, .ref so, .ref mo, .ref wh, .ref pf]))) (h_v : f v = some (.inl (cy 0, 6441, .inl (fun _ => 0)))) : hMet l yX9_batter cX9_batter 5 (some .int) { frames := 1, cells := 0, slots := 0, locals := 24 } D (hTy cy) f sz [.ref m, .int i, .int p, .int wt] (hQi (fun r u => hT u m 1) D f sz) hNo := by
  refine h_enter (by decide) hfl (Nat.le_of_ble_eq_true rfl) ?_
  intro p9 e9 s9 m9 b9 t9 c9 hsz C0 hr hnm G ls hl
  have hx := C0.1.1
  have hb := C0.1.2.1
  have hl : lv_has ls 5 [(0, .ref m), (1, .int i), (2, .int p), (3, .int wt)] := hl
  refine lv_aload_n hx hb dX9_batter_0 rfl (lv_at hl 0 rfl) ?_
  refine lv_iload_n hx hb dX9_batter_1 rfl (lv_at hl 1 rfl) ?_
  refine g_cI C0 G (g_runV C0 G (rest := []) (k_X9_isInnings hfl i h_m h_v) h_m rfl hY_X9_isInnings mm_X9_227 mi_X9_isInnings ml_X9_isInnings ⟨(Nat.le_of_ble_eq_true rfl), (Nat.le_of_ble_eq_true rfl)⟩ rfl hl.1 rfl (Nat.le_of_ble_eq_true rfl) dX9_batter_2 ⟨(Nat.le_of_ble_eq_true rfl), (Nat.le_of_ble_eq_true rfl)⟩) (kx_no rfl) (fun r3 u2 H locs hp1 G => ?_)
  obtain ⟨rfl, eu2⟩ := hp1
  rw [eu2] at G
  refine lv_if_eq (tgt := 22) hx hb dX9_batter_5 (by decide) (fun _ => ?_) (fun c4 => absurd (by decide) c4)
  refine lv_iconst (v := 0) hx hb dX9_batter_22 (by decide) ?_
  refine lv_istore (lv' := [(4, .int 0), (0, .ref m), (1, .int i), (2, .int p), (3, .int wt)]) hx hb dX9_batter_23 hl (by decide) rfl (fun ls hl => ?_)
  refine lv_aload_n hx hb dX9_batter_25 rfl (lv_at hl 1 rfl) ?_
  refine lv_iload hx hb dX9_batter_26 (lv_at hl 0 rfl) ?_
  refine lv_iload_n hx hb dX9_batter_28 rfl (lv_at hl 4 rfl) ?_
  refine lv_iconst (v := 5) hx hb dX9_batter_29 (by decide) ?_
  refine lv_iload hx hb dX9_batter_30 (lv_at hl 0 rfl) ?_
  refine lv_if_eq (tgt := 53) hx hb dX9_batter_32 (by decide) (fun _ => ?_) (fun c5 => absurd (by decide) c5)
  refine lv_iconst (v := 0) hx hb dX9_batter_53 (by decide) ?_
  refine g_cI C0 G (g_runV C0 G (rest := []) (k_X9_asks hfl 0 wt 5 0 h_m rfl) h_m rfl hY_X9_asks mm_X9_230 mi_X9_asks ml_X9_asks ⟨(Nat.le_of_ble_eq_true rfl), (Nat.le_of_ble_eq_true rfl)⟩ rfl hl.1 rfl (Nat.le_of_ble_eq_true rfl) dX9_batter_54 ⟨(Nat.le_of_ble_eq_true rfl), (Nat.le_of_ble_eq_true rfl)⟩) (kx_no rfl) (fun r8 u7 H locs hp6 G => ?_)
  exact g_iret C0 G hr dX9_batter_57 (Nat.le_of_ble_eq_true rfl) (Nat.le_of_ble_eq_true rfl) (by exact hp6)
set_option maxRecDepth 100000 in
theorem k_X9_bowler {l : Launch} (hfl : l.stackTraces = false) {D : va_G} {cy : Nat → ClassId} {f : Hf} {sz : Nat} {m v im kp pa de ide tx pt so mo wh pf : Nat} (i p wt : Int32) (h_m : f m = some (.inr (11, [.int 0, .int 0, .ref v, .ref im, .ref kp, .ref pa, .ref de, .ref ide, .int 0, .int 0, .ref tx, .int 0, .int (-1), .int (-1), .ref pt, .int 0, .int 0, .int 0, .ref so, .ref mo, .ref wh, .ref pf]))) (h_v : f v = some (.inl (cy 0, 6441, .inl (fun _ => 0)))) : hMet l yX9_bowler cX9_bowler 5 (some .int) { frames := 1, cells := 0, slots := 0, locals := 24 } D (hTy cy) f sz [.ref m, .int i, .int p, .int wt] (hQi (fun r u => hT u m 1) D f sz) hNo := by
  refine h_enter (by decide) hfl (Nat.le_of_ble_eq_true rfl) ?_
  intro p9 e9 s9 m9 b9 t9 c9 hsz C0 hr hnm G ls hl
  have hx := C0.1.1
  have hb := C0.1.2.1
  have hl : lv_has ls 5 [(0, .ref m), (1, .int i), (2, .int p), (3, .int wt)] := hl
  refine lv_aload_n hx hb dX9_bowler_0 rfl (lv_at hl 0 rfl) ?_
  refine lv_iload_n hx hb dX9_bowler_1 rfl (lv_at hl 1 rfl) ?_
  refine g_cI C0 G (g_runV C0 G (rest := []) (k_X9_isInnings hfl i h_m h_v) h_m rfl hY_X9_isInnings mm_X9_227 mi_X9_isInnings ml_X9_isInnings ⟨(Nat.le_of_ble_eq_true rfl), (Nat.le_of_ble_eq_true rfl)⟩ rfl hl.1 rfl (Nat.le_of_ble_eq_true rfl) dX9_bowler_2 ⟨(Nat.le_of_ble_eq_true rfl), (Nat.le_of_ble_eq_true rfl)⟩) (kx_no rfl) (fun r3 u2 H locs hp1 G => ?_)
  obtain ⟨rfl, eu2⟩ := hp1
  rw [eu2] at G
  refine lv_if_eq (tgt := 22) hx hb dX9_bowler_5 (by decide) (fun _ => ?_) (fun c4 => absurd (by decide) c4)
  refine lv_iconst (v := 0) hx hb dX9_bowler_22 (by decide) ?_
  refine lv_istore (lv' := [(4, .int 0), (0, .ref m), (1, .int i), (2, .int p), (3, .int wt)]) hx hb dX9_bowler_23 hl (by decide) rfl (fun ls hl => ?_)
  refine lv_aload_n hx hb dX9_bowler_25 rfl (lv_at hl 1 rfl) ?_
  refine lv_iload hx hb dX9_bowler_26 (lv_at hl 0 rfl) ?_
  refine lv_iload_n hx hb dX9_bowler_28 rfl (lv_at hl 4 rfl) ?_
  refine lv_bipush (v := 6) hx hb dX9_bowler_29 (by decide) ?_
  refine lv_iload hx hb dX9_bowler_31 (lv_at hl 0 rfl) ?_
  refine lv_if_eq (tgt := 55) hx hb dX9_bowler_33 (by decide) (fun _ => ?_) (fun c5 => absurd (by decide) c5)
  refine lv_iconst (v := 0) hx hb dX9_bowler_55 (by decide) ?_
  refine g_cI C0 G (g_runV C0 G (rest := []) (k_X9_asks hfl 0 wt 6 0 h_m rfl) h_m rfl hY_X9_asks mm_X9_230 mi_X9_asks ml_X9_asks ⟨(Nat.le_of_ble_eq_true rfl), (Nat.le_of_ble_eq_true rfl)⟩ rfl hl.1 rfl (Nat.le_of_ble_eq_true rfl) dX9_bowler_56 ⟨(Nat.le_of_ble_eq_true rfl), (Nat.le_of_ble_eq_true rfl)⟩) (kx_no rfl) (fun r8 u7 H locs hp6 G => ?_)
  exact g_iret C0 G hr dX9_bowler_59 (Nat.le_of_ble_eq_true rfl) (Nat.le_of_ble_eq_true rfl) (by exact hp6)
set_option maxRecDepth 100000 in
theorem k_X9_partnership {l : Launch} (hfl : l.stackTraces = false) {D : va_G} {cy : Nat → ClassId} {f : Hf} {sz : Nat} {m v im kp pa de ide tx pt so mo wh pf : Nat} (i p wt : Int32) (h_m : f m = some (.inr (11, [.int 0, .int 0, .ref v, .ref im, .ref kp, .ref pa, .ref de, .ref ide, .int 0, .int 0, .ref tx, .int 0, .int (-1), .int (-1), .ref pt, .int 0, .int 0, .int 0, .ref so, .ref mo, .ref wh, .ref pf]))) (h_v : f v = some (.inl (cy 0, 6441, .inl (fun _ => 0)))) : hMet l yX9_partnership cX9_partnership 4 (some .int) { frames := 1, cells := 0, slots := 0, locals := 21 } D (hTy cy) f sz [.ref m, .int i, .int p, .int wt] (hQi (fun r u => hT u m 1) D f sz) hNo := by
  refine h_enter (by decide) hfl (Nat.le_of_ble_eq_true rfl) ?_
  intro p9 e9 s9 m9 b9 t9 c9 hsz C0 hr hnm G ls hl
  have hx := C0.1.1
  have hb := C0.1.2.1
  have hl : lv_has ls 4 [(0, .ref m), (1, .int i), (2, .int p), (3, .int wt)] := hl
  refine lv_aload_n hx hb dX9_partnership_0 rfl (lv_at hl 0 rfl) ?_
  refine lv_iload_n hx hb dX9_partnership_1 rfl (lv_at hl 1 rfl) ?_
  refine g_cI C0 G (g_runV C0 G (rest := []) (k_X9_isInnings hfl i h_m h_v) h_m rfl hY_X9_isInnings mm_X9_227 mi_X9_isInnings ml_X9_isInnings ⟨(Nat.le_of_ble_eq_true rfl), (Nat.le_of_ble_eq_true rfl)⟩ rfl hl.1 rfl (Nat.le_of_ble_eq_true rfl) dX9_partnership_2 ⟨(Nat.le_of_ble_eq_true rfl), (Nat.le_of_ble_eq_true rfl)⟩) (kx_no rfl) (fun r3 u2 H locs hp1 G => ?_)
  obtain ⟨rfl, eu2⟩ := hp1
  rw [eu2] at G
  refine lv_if_ne (tgt := 14) hx hb dX9_partnership_5 (by decide) (fun c4 => absurd (by decide) c4) (fun _ => ?_)
  refine lv_aload_n hx hb dX9_partnership_8 rfl (lv_at hl 0 rfl) ?_
  refine lv_iconst (v := 1) hx hb dX9_partnership_9 (by decide) ?_
  refine g_cI C0 G (g_runV C0 G (rest := []) (k_X9_no hfl 1 h_m) h_m rfl hY_X9_no mm_X9_169 mi_X9_no ml_X9_no ⟨(Nat.le_of_ble_eq_true rfl), (Nat.le_of_ble_eq_true rfl)⟩ rfl hl.1 rfl (Nat.le_of_ble_eq_true rfl) dX9_partnership_10 ⟨(Nat.le_of_ble_eq_true rfl), (Nat.le_of_ble_eq_true rfl)⟩) (kx_no rfl) (fun r7 u6 H locs hp5 G => ?_)
  obtain ⟨rfl, e8⟩ := hp5
  have k9 : u6 m = some (.inr (11, [.int 1, .int 0, .ref v, .ref im, .ref kp, .ref pa, .ref de, .ref ide, .int 0, .int 0, .ref tx, .int 0, .int (-1), .int (-1), .ref pt, .int 0, .int 0, .int 0, .ref so, .ref mo, .ref wh, .ref pf])) := hus e8
  exact g_iret C0 G hr dX9_partnership_13 (Nat.le_of_ble_eq_true rfl) (Nat.le_of_ble_eq_true rfl) (by exact ⟨_, k9⟩)
set_option maxRecDepth 100000 in
theorem k_X9_fall {l : Launch} (hfl : l.stackTraces = false) {D : va_G} {cy : Nat → ClassId} {f : Hf} {sz : Nat} {m v im kp pa de ide tx pt so mo wh pf : Nat} (i p wt : Int32) (h_m : f m = some (.inr (11, [.int 0, .int 0, .ref v, .ref im, .ref kp, .ref pa, .ref de, .ref ide, .int 0, .int 0, .ref tx, .int 0, .int (-1), .int (-1), .ref pt, .int 0, .int 0, .int 0, .ref so, .ref mo, .ref wh, .ref pf]))) (h_v : f v = some (.inl (cy 0, 6441, .inl (fun _ => 0)))) : hMet l yX9_fall cX9_fall 4 (some .int) { frames := 1, cells := 0, slots := 0, locals := 21 } D (hTy cy) f sz [.ref m, .int i, .int p, .int wt] (hQi (fun r u => hT u m 1) D f sz) hNo := by
  refine h_enter (by decide) hfl (Nat.le_of_ble_eq_true rfl) ?_
  intro p9 e9 s9 m9 b9 t9 c9 hsz C0 hr hnm G ls hl
  have hx := C0.1.1
  have hb := C0.1.2.1
  have hl : lv_has ls 4 [(0, .ref m), (1, .int i), (2, .int p), (3, .int wt)] := hl
  refine lv_aload_n hx hb dX9_fall_0 rfl (lv_at hl 0 rfl) ?_
  refine lv_iload_n hx hb dX9_fall_1 rfl (lv_at hl 1 rfl) ?_
  refine g_cI C0 G (g_runV C0 G (rest := []) (k_X9_isInnings hfl i h_m h_v) h_m rfl hY_X9_isInnings mm_X9_227 mi_X9_isInnings ml_X9_isInnings ⟨(Nat.le_of_ble_eq_true rfl), (Nat.le_of_ble_eq_true rfl)⟩ rfl hl.1 rfl (Nat.le_of_ble_eq_true rfl) dX9_fall_2 ⟨(Nat.le_of_ble_eq_true rfl), (Nat.le_of_ble_eq_true rfl)⟩) (kx_no rfl) (fun r3 u2 H locs hp1 G => ?_)
  obtain ⟨rfl, eu2⟩ := hp1
  rw [eu2] at G
  refine lv_if_ne (tgt := 14) hx hb dX9_fall_5 (by decide) (fun c4 => absurd (by decide) c4) (fun _ => ?_)
  refine lv_aload_n hx hb dX9_fall_8 rfl (lv_at hl 0 rfl) ?_
  refine lv_iconst (v := 1) hx hb dX9_fall_9 (by decide) ?_
  refine g_cI C0 G (g_runV C0 G (rest := []) (k_X9_no hfl 1 h_m) h_m rfl hY_X9_no mm_X9_169 mi_X9_no ml_X9_no ⟨(Nat.le_of_ble_eq_true rfl), (Nat.le_of_ble_eq_true rfl)⟩ rfl hl.1 rfl (Nat.le_of_ble_eq_true rfl) dX9_fall_10 ⟨(Nat.le_of_ble_eq_true rfl), (Nat.le_of_ble_eq_true rfl)⟩) (kx_no rfl) (fun r7 u6 H locs hp5 G => ?_)
  obtain ⟨rfl, e8⟩ := hp5
  have k9 : u6 m = some (.inr (11, [.int 1, .int 0, .ref v, .ref im, .ref kp, .ref pa, .ref de, .ref ide, .int 0, .int 0, .ref tx, .int 0, .int (-1), .int (-1), .ref pt, .int 0, .int 0, .int 0, .ref so, .ref mo, .ref wh, .ref pf])) := hus e8
  exact g_iret C0 G hr dX9_fall_13 (Nat.le_of_ble_eq_true rfl) (Nat.le_of_ble_eq_true rfl) (by exact ⟨_, k9⟩)
set_option maxRecDepth 100000 in
theorem k_X9_needed {l : Launch} (hfl : l.stackTraces = false) {D : va_G} {cy : Nat → ClassId} {f : Hf} {sz : Nat} {m v im kp pa de ide tx pt so mo wh pf : Nat} (ot : Int32) (h_m : f m = some (.inr (11, [.int 0, .int 0, .ref v, .ref im, .ref kp, .ref pa, .ref de, .ref ide, .int 0, .int 0, .ref tx, .int 0, .int (-1), .int (-1), .ref pt, .int 0, .int 0, .int 0, .ref so, .ref mo, .ref wh, .ref pf]))) (h_v : f v = some (.inl (cy 0, 6441, .inl (fun _ => 0)))) (hb_ot : ot = 0 ∨ ot = 1) : hMet l yX9_needed cX9_needed 3 (some .int) { frames := 1, cells := 0, slots := 0, locals := 21 } D (hTy cy) f sz [.ref m, .int ot] (hQi (fun r u => hT u m 1) D f sz) hNo := by
  refine h_enter (by decide) hfl (Nat.le_of_ble_eq_true rfl) ?_
  intro p9 e9 s9 m9 b9 t9 c9 hsz C0 hr hnm G ls hl
  have hx := C0.1.1
  have hb := C0.1.2.1
  have hl : lv_has ls 3 [(0, .ref m), (1, .int ot)] := hl
  refine lv_aload_n hx hb dX9_needed_0 rfl (lv_at hl 0 rfl) ?_
  refine lv_iconst (v := 0) hx hb dX9_needed_1 (by decide) ?_
  refine g_put C0 G h_m rfl hiX9 tyX9 tyX9_ok nmX9 0 (by decide) mf_X9_55 rfl rfl rfl rfl (Nat.le_of_ble_eq_true rfl) dX9_needed_2 (fun H locs f1 hf1 G => ?_)
  have k2 : f1 m = some (.inr (11, [.int 0, .int 0, .ref v, .ref im, .ref kp, .ref pa, .ref de, .ref ide, .int 0, .int 0, .ref tx, .int 0, .int (-1), .int (-1), .ref pt, .int 0, .int 0, .int 0, .ref so, .ref mo, .ref wh, .ref pf])) := hus hf1
  refine lv_aload_n hx hb dX9_needed_5 rfl (lv_at hl 0 rfl) ?_
  refine lv_iconst (v := 1) hx hb dX9_needed_6 (by decide) ?_
  have k3 : f1 v = some (.inl (cy 0, 6441, .inl (fun _ => 0))) := hup hf1 (hne h_v h_m (by intro q; cases q)) h_v
  refine g_cI C0 G (g_runV C0 G (rest := []) (k_X9_hasMatch hfl 1 k2 k3) k2 rfl hY_X9_hasMatch mm_X9_221 mi_X9_hasMatch ml_X9_hasMatch ⟨(Nat.le_of_ble_eq_true rfl), (Nat.le_of_ble_eq_true rfl)⟩ rfl hl.1 rfl (Nat.le_of_ble_eq_true rfl) dX9_needed_7 ⟨(Nat.le_of_ble_eq_true rfl), (Nat.le_of_ble_eq_true rfl)⟩) (kx_no rfl) (fun r6 u5 H locs hp4 G => ?_)
  obtain ⟨rfl, e7⟩ := hp4
  have k8 : u5 m = some (.inr (11, [.int 1, .int 1, .ref v, .ref im, .ref kp, .ref pa, .ref de, .ref ide, .int 0, .int 0, .ref tx, .int 0, .int (-1), .int (-1), .ref pt, .int 0, .int 0, .int 0, .ref so, .ref mo, .ref wh, .ref pf])) := hus e7
  refine lv_if_ne (tgt := 15) hx hb dX9_needed_10 (by decide) (fun c9 => absurd (by decide) c9) (fun _ => ?_)
  refine lv_iconst (v := 0) hx hb dX9_needed_13 (by decide) ?_
  exact g_iret C0 G hr dX9_needed_14 (Nat.le_of_ble_eq_true rfl) (Nat.le_of_ble_eq_true rfl) (by exact ⟨_, k8⟩)
set_option maxRecDepth 100000 in
theorem k_X9_result {l : Launch} (hfl : l.stackTraces = false) {D : va_G} {cy : Nat → ClassId} {f : Hf} {sz : Nat} {m v im kp pa de ide tx pt so mo wh pf : Nat} (h_m : f m = some (.inr (11, [.int 0, .int 0, .ref v, .ref im, .ref kp, .ref pa, .ref de, .ref ide, .int 0, .int 0, .ref tx, .int 0, .int (-1), .int (-1), .ref pt, .int 0, .int 0, .int 0, .ref so, .ref mo, .ref wh, .ref pf]))) (h_v : f v = some (.inl (cy 0, 6441, .inl (fun _ => 0)))) : hMet l yX9_result cX9_result 3 (some .int) { frames := 0, cells := 0, slots := 0, locals := 0 } D (hTy cy) f sz [.ref m] (hQi (fun r u => r = 0 ∧ True) D f sz) hNo := by
  refine h_enter (by decide) hfl (Nat.le_of_ble_eq_true rfl) ?_
  intro p9 e9 s9 m9 b9 t9 c9 hsz C0 hr hnm G ls hl
  have hx := C0.1.1
  have hb := C0.1.2.1
  have hl : lv_has ls 3 [(0, .ref m)] := hl
  refine lv_aload_n hx hb dX9_result_0 rfl (lv_at hl 0 rfl) ?_
  refine lv_iconst (v := 0) hx hb dX9_result_1 (by decide) ?_
  refine g_put C0 G h_m rfl hiX9 tyX9 tyX9_ok nmX9 0 (by decide) mf_X9_55 rfl rfl rfl rfl (Nat.le_of_ble_eq_true rfl) dX9_result_2 (fun H locs f1 hf1 G => ?_)
  have k2 : f1 m = some (.inr (11, [.int 0, .int 0, .ref v, .ref im, .ref kp, .ref pa, .ref de, .ref ide, .int 0, .int 0, .ref tx, .int 0, .int (-1), .int (-1), .ref pt, .int 0, .int 0, .int 0, .ref so, .ref mo, .ref wh, .ref pf])) := hus hf1
  refine lv_aload_n hx hb dX9_result_5 rfl (lv_at hl 0 rfl) ?_
  refine g_get C0 G k2 rfl hiX9 2 (by decide) mf_X9_9 rfl dX9_result_6 ?_
  refine lv_iconst (v := 0) hx hb dX9_result_9 (by decide) ?_
  have k3 : f1 v = some (.inl (cy 0, 6441, .inl (fun _ => 0))) := hup hf1 (hne h_v h_m (by intro q; cases q)) h_v
  refine g_iald C0 G k3 0 rfl (by unfold vp_in; decide) dX9_result_10 ?_
  refine lv_topv (v := 0) (rfl) ?_
  refine lv_if_eq (tgt := 23) hx hb dX9_result_11 (by decide) (fun _ => ?_) (fun c4 => absurd (by decide) c4)
  refine lv_iconst (v := 0) hx hb dX9_result_23 (by decide) ?_
  exact g_iret C0 G hr dX9_result_24 (Nat.le_of_ble_eq_true rfl) (Nat.le_of_ble_eq_true rfl) (by exact ⟨rfl, trivial⟩)
set_option maxRecDepth 100000 in
theorem k_X9_runRate {l : Launch} (hfl : l.stackTraces = false) {D : va_G} {cy : Nat → ClassId} {f : Hf} {sz : Nat} {m v im kp pa de ide tx pt so mo wh pf : Nat} (i : Int32) (h_m : f m = some (.inr (11, [.int 0, .int 0, .ref v, .ref im, .ref kp, .ref pa, .ref de, .ref ide, .int 0, .int 0, .ref tx, .int 0, .int (-1), .int (-1), .ref pt, .int 0, .int 0, .int 0, .ref so, .ref mo, .ref wh, .ref pf]))) (h_v : f v = some (.inl (cy 0, 6441, .inl (fun _ => 0)))) : hMet l yX9_runRate cX9_runRate 2 (some .double) { frames := 1, cells := 0, slots := 0, locals := 21 } D (hTy cy) f sz [.ref m, .int i] (hQd (fun r u => hT u m 1) D f sz) hNo := by
  refine h_enter (by decide) hfl (Nat.le_of_ble_eq_true rfl) ?_
  intro p9 e9 s9 m9 b9 t9 c9 hsz C0 hr hnm G ls hl
  have hx := C0.1.1
  have hb := C0.1.2.1
  have hl : lv_has ls 2 [(0, .ref m), (1, .int i)] := hl
  refine lv_aload_n hx hb dX9_runRate_0 rfl (lv_at hl 0 rfl) ?_
  refine lv_aload_n hx hb dX9_runRate_1 rfl (lv_at hl 0 rfl) ?_
  refine lv_iload_n hx hb dX9_runRate_2 rfl (lv_at hl 1 rfl) ?_
  refine g_cI C0 G (g_runV C0 G (rest := [.ref m]) (k_X9_isInnings hfl i h_m h_v) h_m rfl hY_X9_isInnings mm_X9_227 mi_X9_isInnings ml_X9_isInnings ⟨(Nat.le_of_ble_eq_true rfl), (Nat.le_of_ble_eq_true rfl)⟩ rfl hl.1 rfl (Nat.le_of_ble_eq_true rfl) dX9_runRate_3 ⟨(Nat.le_of_ble_eq_true rfl), (Nat.le_of_ble_eq_true rfl)⟩) (kx_no rfl) (fun r3 u2 H locs hp1 G => ?_)
  obtain ⟨rfl, eu2⟩ := hp1
  rw [eu2] at G
  refine lv_if_ne (tgt := 13) hx hb dX9_runRate_6 (by decide) (fun c4 => absurd (by decide) c4) (fun _ => ?_)
  refine lv_iconst (v := 1) hx hb dX9_runRate_9 (by decide) ?_
  refine lv_goto (tgt := 31) hx hb dX9_runRate_10 (by decide) ?_
  refine g_put C0 G h_m rfl hiX9 tyX9 tyX9_ok nmX9 0 (by decide) mf_X9_55 rfl rfl rfl rfl (Nat.le_of_ble_eq_true rfl) dX9_runRate_31 (fun H locs f5 hf5 G => ?_)
  have k6 : f5 m = some (.inr (11, [.int 1, .int 0, .ref v, .ref im, .ref kp, .ref pa, .ref de, .ref ide, .int 0, .int 0, .ref tx, .int 0, .int (-1), .int (-1), .ref pt, .int 0, .int 0, .int 0, .ref so, .ref mo, .ref wh, .ref pf])) := hus hf5
  refine lv_aload_n hx hb dX9_runRate_34 rfl (lv_at hl 0 rfl) ?_
  refine g_get C0 G k6 rfl hiX9 0 (by decide) mf_X9_55 rfl dX9_runRate_35 ?_
  refine lv_if_le (tgt := 45) hx hb dX9_runRate_38 (by decide) (fun c7 => absurd c7 (by decide)) (fun _ => ?_)
  refine lv_dconst0 hx hb dX9_runRate_41 ?_
  refine lv_goto (tgt := 71) hx hb dX9_runRate_42 (by decide) ?_
  exact g_dret C0 G hr dX9_runRate_71 (Nat.le_of_ble_eq_true rfl) (Nat.le_of_ble_eq_true rfl) (by exact ⟨_, k6⟩)
set_option maxRecDepth 100000 in
theorem k_X9_strikeRate {l : Launch} (hfl : l.stackTraces = false) {D : va_G} {cy : Nat → ClassId} {f : Hf} {sz : Nat} {m v im kp pa de ide tx pt so mo wh pf : Nat} (i p : Int32) (h_m : f m = some (.inr (11, [.int 0, .int 0, .ref v, .ref im, .ref kp, .ref pa, .ref de, .ref ide, .int 0, .int 0, .ref tx, .int 0, .int (-1), .int (-1), .ref pt, .int 0, .int 0, .int 0, .ref so, .ref mo, .ref wh, .ref pf]))) (h_v : f v = some (.inl (cy 0, 6441, .inl (fun _ => 0)))) : hMet l yX9_strikeRate cX9_strikeRate 3 (some .float) { frames := 1, cells := 0, slots := 0, locals := 21 } D (hTy cy) f sz [.ref m, .int i, .int p] (hQf (fun r u => hT u m 1) D f sz) hNo := by
  refine h_enter (by decide) hfl (Nat.le_of_ble_eq_true rfl) ?_
  intro p9 e9 s9 m9 b9 t9 c9 hsz C0 hr hnm G ls hl
  have hx := C0.1.1
  have hb := C0.1.2.1
  have hl : lv_has ls 3 [(0, .ref m), (1, .int i), (2, .int p)] := hl
  refine lv_aload_n hx hb dX9_strikeRate_0 rfl (lv_at hl 0 rfl) ?_
  refine lv_aload_n hx hb dX9_strikeRate_1 rfl (lv_at hl 0 rfl) ?_
  refine lv_iload_n hx hb dX9_strikeRate_2 rfl (lv_at hl 1 rfl) ?_
  refine g_cI C0 G (g_runV C0 G (rest := [.ref m]) (k_X9_isInnings hfl i h_m h_v) h_m rfl hY_X9_isInnings mm_X9_227 mi_X9_isInnings ml_X9_isInnings ⟨(Nat.le_of_ble_eq_true rfl), (Nat.le_of_ble_eq_true rfl)⟩ rfl hl.1 rfl (Nat.le_of_ble_eq_true rfl) dX9_strikeRate_3 ⟨(Nat.le_of_ble_eq_true rfl), (Nat.le_of_ble_eq_true rfl)⟩) (kx_no rfl) (fun r3 u2 H locs hp1 G => ?_)
  obtain ⟨rfl, eu2⟩ := hp1
  rw [eu2] at G
  refine lv_if_eq (tgt := 19) hx hb dX9_strikeRate_6 (by decide) (fun _ => ?_) (fun c4 => absurd (by decide) c4)
  refine lv_iconst (v := 1) hx hb dX9_strikeRate_19 (by decide) ?_
  refine lv_goto (tgt := 42) hx hb dX9_strikeRate_20 (by decide) ?_
  refine g_put C0 G h_m rfl hiX9 tyX9 tyX9_ok nmX9 0 (by decide) mf_X9_55 rfl rfl rfl rfl (Nat.le_of_ble_eq_true rfl) dX9_strikeRate_42 (fun H locs f5 hf5 G => ?_)
  have k6 : f5 m = some (.inr (11, [.int 1, .int 0, .ref v, .ref im, .ref kp, .ref pa, .ref de, .ref ide, .int 0, .int 0, .ref tx, .int 0, .int (-1), .int (-1), .ref pt, .int 0, .int 0, .int 0, .ref so, .ref mo, .ref wh, .ref pf])) := hus hf5
  refine lv_aload_n hx hb dX9_strikeRate_45 rfl (lv_at hl 0 rfl) ?_
  refine g_get C0 G k6 rfl hiX9 0 (by decide) mf_X9_55 rfl dX9_strikeRate_46 ?_
  refine lv_if_le (tgt := 56) hx hb dX9_strikeRate_49 (by decide) (fun c7 => absurd c7 (by decide)) (fun _ => ?_)
  refine lv_fconst0 hx hb dX9_strikeRate_52 ?_
  refine lv_goto (tgt := 84) hx hb dX9_strikeRate_53 (by decide) ?_
  exact g_fret C0 G hr dX9_strikeRate_84 (Nat.le_of_ble_eq_true rfl) (Nat.le_of_ble_eq_true rfl) (by exact ⟨_, k6⟩)
set_option maxRecDepth 100000 in
theorem k_X9_storeOvers {l : Launch} (hfl : l.stackTraces = false) {D : va_G} {cy : Nat → ClassId} {f : Hf} {sz : Nat} {m v im kp pa de ide tx pt so mo wh pf : Nat} (p i ot : Int32) (h_m : f m = some (.inr (11, [.int 0, .int 0, .ref v, .ref im, .ref kp, .ref pa, .ref de, .ref ide, .int 0, .int 0, .ref tx, .int 0, .int (-1), .int (-1), .ref pt, .int 0, .int 0, .int 0, .ref so, .ref mo, .ref wh, .ref pf]))) (h_v : f v = some (.inl (cy 0, 6441, .inl (fun _ => 0)))) (hb_ot : ot = 0 ∨ ot = 1) : hMet l yX9_storeOvers cX9_storeOvers 7 (some .int) { frames := 1, cells := 0, slots := 0, locals := 22 } D (hTy cy) f sz [.ref m, .int p, .int i, .int ot] (hQi (fun r u => hT u m 1) D f sz) hNo := by
  refine h_enter (by decide) hfl (Nat.le_of_ble_eq_true rfl) ?_
  intro p9 e9 s9 m9 b9 t9 c9 hsz C0 hr hnm G ls hl
  have hx := C0.1.1
  have hb := C0.1.2.1
  have hl : lv_has ls 7 [(0, .ref m), (1, .int p), (2, .int i), (3, .int ot)] := hl
  refine lv_aload_n hx hb dX9_storeOvers_0 rfl (lv_at hl 0 rfl) ?_
  refine lv_iload_n hx hb dX9_storeOvers_1 rfl (lv_at hl 1 rfl) ?_
  refine lv_iconst (v := 0) hx hb dX9_storeOvers_2 (by decide) ?_
  refine lv_iconst (v := 1) hx hb dX9_storeOvers_3 (by decide) ?_
  refine g_cI C0 G (g_runS C0 G (rest := [.ref m]) (k_X9_isIn hfl p 0 1) hY_X9_isIn mm_X9_76 ms_X9_isIn ⟨(Nat.le_of_ble_eq_true rfl), (Nat.le_of_ble_eq_true rfl)⟩ rfl hl.1 rfl (Nat.le_of_ble_eq_true rfl) dX9_storeOvers_4 ⟨(Nat.le_of_ble_eq_true rfl), (Nat.le_of_ble_eq_true rfl)⟩) (kx_no rfl) (fun r3 u2 H locs hp1 G => ?_)
  obtain ⟨b4, eu2⟩ := hp1
  rw [eu2] at G
  rcases b4 with ⟨rfl, c5⟩ | ⟨rfl, c5⟩
  · refine lv_if_eq (tgt := 22) hx hb dX9_storeOvers_7 (by decide) (fun c6 => absurd c6 (by decide)) (fun _ => ?_)
    refine lv_aload_n hx hb dX9_storeOvers_10 rfl (lv_at hl 0 rfl) ?_
    refine lv_iload_n hx hb dX9_storeOvers_11 rfl (lv_at hl 2 rfl) ?_
    refine g_cI C0 G (g_runV C0 G (rest := [.ref m]) (k_X9_isInnings hfl i h_m h_v) h_m rfl hY_X9_isInnings mm_X9_227 mi_X9_isInnings ml_X9_isInnings ⟨(Nat.le_of_ble_eq_true rfl), (Nat.le_of_ble_eq_true rfl)⟩ rfl hl.1 rfl (Nat.le_of_ble_eq_true rfl) dX9_storeOvers_12 ⟨(Nat.le_of_ble_eq_true rfl), (Nat.le_of_ble_eq_true rfl)⟩) (kx_no rfl) (fun r9 u8 H locs hp7 G => ?_)
    obtain ⟨rfl, eu8⟩ := hp7
    rw [eu8] at G
    refine lv_if_eq (tgt := 22) hx hb dX9_storeOvers_15 (by decide) (fun _ => ?_) (fun c10 => absurd (by decide) c10)
    refine lv_iconst (v := 1) hx hb dX9_storeOvers_22 (by decide) ?_
    refine g_put C0 G h_m rfl hiX9 tyX9 tyX9_ok nmX9 0 (by decide) mf_X9_55 rfl rfl rfl rfl (Nat.le_of_ble_eq_true rfl) dX9_storeOvers_23 (fun H locs f11 hf11 G => ?_)
    have k12 : f11 m = some (.inr (11, [.int 1, .int 0, .ref v, .ref im, .ref kp, .ref pa, .ref de, .ref ide, .int 0, .int 0, .ref tx, .int 0, .int (-1), .int (-1), .ref pt, .int 0, .int 0, .int 0, .ref so, .ref mo, .ref wh, .ref pf])) := hus hf11
    refine lv_aload_n hx hb dX9_storeOvers_26 rfl (lv_at hl 0 rfl) ?_
    refine g_get C0 G k12 rfl hiX9 0 (by decide) mf_X9_55 rfl dX9_storeOvers_27 ?_
    refine lv_iconst (v := 1) hx hb dX9_storeOvers_30 (by decide) ?_
    refine lv_icmp_ne (tgt := 36) hx hb dX9_storeOvers_31 (by decide) (fun c13 => absurd (by decide) c13) (fun _ => ?_)
    refine lv_iconst (v := 0) hx hb dX9_storeOvers_34 (by decide) ?_
    exact g_iret C0 G hr dX9_storeOvers_35 (Nat.le_of_ble_eq_true rfl) (Nat.le_of_ble_eq_true rfl) (by exact ⟨_, k12⟩)
  · refine lv_if_eq (tgt := 22) hx hb dX9_storeOvers_7 (by decide) (fun _ => ?_) (fun c14 => absurd (by decide) c14)
    refine lv_iconst (v := 1) hx hb dX9_storeOvers_22 (by decide) ?_
    refine g_put C0 G h_m rfl hiX9 tyX9 tyX9_ok nmX9 0 (by decide) mf_X9_55 rfl rfl rfl rfl (Nat.le_of_ble_eq_true rfl) dX9_storeOvers_23 (fun H locs f15 hf15 G => ?_)
    have k16 : f15 m = some (.inr (11, [.int 1, .int 0, .ref v, .ref im, .ref kp, .ref pa, .ref de, .ref ide, .int 0, .int 0, .ref tx, .int 0, .int (-1), .int (-1), .ref pt, .int 0, .int 0, .int 0, .ref so, .ref mo, .ref wh, .ref pf])) := hus hf15
    refine lv_aload_n hx hb dX9_storeOvers_26 rfl (lv_at hl 0 rfl) ?_
    refine g_get C0 G k16 rfl hiX9 0 (by decide) mf_X9_55 rfl dX9_storeOvers_27 ?_
    refine lv_iconst (v := 1) hx hb dX9_storeOvers_30 (by decide) ?_
    refine lv_icmp_ne (tgt := 36) hx hb dX9_storeOvers_31 (by decide) (fun c17 => absurd (by decide) c17) (fun _ => ?_)
    refine lv_iconst (v := 0) hx hb dX9_storeOvers_34 (by decide) ?_
    exact g_iret C0 G hr dX9_storeOvers_35 (Nat.le_of_ble_eq_true rfl) (Nat.le_of_ble_eq_true rfl) (by exact ⟨_, k16⟩)
set_option maxRecDepth 100000 in
theorem k_X9_copyOvers {l : Launch} (hfl : l.stackTraces = false) {D : va_G} {cy : Nat → ClassId} {f : Hf} {sz : Nat} {m v im kp pa de ide tx pt so mo wh pf : Nat} (p i : Int32) (h_m : f m = some (.inr (11, [.int 0, .int 0, .ref v, .ref im, .ref kp, .ref pa, .ref de, .ref ide, .int 0, .int 0, .ref tx, .int 0, .int (-1), .int (-1), .ref pt, .int 0, .int 0, .int 0, .ref so, .ref mo, .ref wh, .ref pf]))) (h_so : f so = some (.inl (cy 0, 2, .inl (fun _ => 0)))) (h_mo : f mo = some (.inl (cy 0, 2, .inl (fun _ => 0)))) : hMet l yX9_copyOvers cX9_copyOvers 7 (some .boolean) { frames := 1, cells := 0, slots := 0, locals := 22 } D (hTy cy) f sz [.ref m, .int p, .int i] (hQi (fun r u => ((0 ≤ p ∧ p ≤ 1) ∧ hT u m 2) ∨ ((¬ (0 ≤ p ∧ p ≤ 1)) ∧ hT u m 1)) D f sz) hNo := by
  refine h_enter (by decide) hfl (Nat.le_of_ble_eq_true rfl) ?_
  intro p9 e9 s9 m9 b9 t9 c9 hsz C0 hr hnm G ls hl
  have hx := C0.1.1
  have hb := C0.1.2.1
  have hl : lv_has ls 7 [(0, .ref m), (1, .int p), (2, .int i)] := hl
  refine lv_aload_n hx hb dX9_copyOvers_0 rfl (lv_at hl 0 rfl) ?_
  refine lv_iload_n hx hb dX9_copyOvers_1 rfl (lv_at hl 1 rfl) ?_
  refine lv_iconst (v := 0) hx hb dX9_copyOvers_2 (by decide) ?_
  refine lv_iconst (v := 1) hx hb dX9_copyOvers_3 (by decide) ?_
  refine g_cI C0 G (g_runS C0 G (rest := [.ref m]) (k_X9_isIn hfl p 0 1) hY_X9_isIn mm_X9_76 ms_X9_isIn ⟨(Nat.le_of_ble_eq_true rfl), (Nat.le_of_ble_eq_true rfl)⟩ rfl hl.1 rfl (Nat.le_of_ble_eq_true rfl) dX9_copyOvers_4 ⟨(Nat.le_of_ble_eq_true rfl), (Nat.le_of_ble_eq_true rfl)⟩) (kx_no rfl) (fun r3 u2 H locs hp1 G => ?_)
  obtain ⟨b4, eu2⟩ := hp1
  rw [eu2] at G
  rcases b4 with ⟨rfl, c5⟩ | ⟨rfl, c5⟩
  · refine lv_if_ne (tgt := 14) hx hb dX9_copyOvers_7 (by decide) (fun _ => ?_) (fun c6 => absurd c6 (by decide))
    refine lv_aload_n hx hb dX9_copyOvers_14 rfl (lv_at hl 0 rfl) ?_
    refine g_get C0 G h_m rfl hiX9 18 (by decide) mf_X9_42 rfl dX9_copyOvers_15 ?_
    refine lv_iconst (v := 0) hx hb dX9_copyOvers_18 (by decide) ?_
    refine g_iald C0 G h_so 0 rfl (by unfold vp_in; decide) dX9_copyOvers_19 ?_
    refine lv_topv (v := 0) (rfl) ?_
    refine lv_if_eq (tgt := 32) hx hb dX9_copyOvers_20 (by decide) (fun _ => ?_) (fun c7 => absurd (by decide) c7)
    refine lv_iconst (v := 2) hx hb dX9_copyOvers_32 (by decide) ?_
    refine lv_goto (tgt := 84) hx hb dX9_copyOvers_33 (by decide) ?_
    refine g_put C0 G h_m rfl hiX9 tyX9 tyX9_ok nmX9 0 (by decide) mf_X9_55 rfl rfl rfl rfl (Nat.le_of_ble_eq_true rfl) dX9_copyOvers_84 (fun H locs f8 hf8 G => ?_)
    have k9 : f8 m = some (.inr (11, [.int 2, .int 0, .ref v, .ref im, .ref kp, .ref pa, .ref de, .ref ide, .int 0, .int 0, .ref tx, .int 0, .int (-1), .int (-1), .ref pt, .int 0, .int 0, .int 0, .ref so, .ref mo, .ref wh, .ref pf])) := hus hf8
    refine lv_aload_n hx hb dX9_copyOvers_87 rfl (lv_at hl 0 rfl) ?_
    refine g_get C0 G k9 rfl hiX9 0 (by decide) mf_X9_55 rfl dX9_copyOvers_88 ?_
    refine lv_if_le (tgt := 96) hx hb dX9_copyOvers_91 (by decide) (fun c10 => absurd c10 (by decide)) (fun _ => ?_)
    refine lv_iconst (v := 0) hx hb dX9_copyOvers_94 (by decide) ?_
    exact g_zret C0 G hr dX9_copyOvers_95 rfl (Nat.le_of_ble_eq_true rfl) (Nat.le_of_ble_eq_true rfl) (by exact Or.inl (⟨(by first | assumption | (simp_all; done) | (simp only [Int32.lt_iff_toInt_lt, Int32.le_iff_toInt_le] at *; omega)), ⟨_, k9⟩⟩))
  · refine lv_if_ne (tgt := 14) hx hb dX9_copyOvers_7 (by decide) (fun c11 => absurd (by decide) c11) (fun _ => ?_)
    refine lv_iconst (v := 1) hx hb dX9_copyOvers_10 (by decide) ?_
    refine lv_goto (tgt := 84) hx hb dX9_copyOvers_11 (by decide) ?_
    refine g_put C0 G h_m rfl hiX9 tyX9 tyX9_ok nmX9 0 (by decide) mf_X9_55 rfl rfl rfl rfl (Nat.le_of_ble_eq_true rfl) dX9_copyOvers_84 (fun H locs f12 hf12 G => ?_)
    have k13 : f12 m = some (.inr (11, [.int 1, .int 0, .ref v, .ref im, .ref kp, .ref pa, .ref de, .ref ide, .int 0, .int 0, .ref tx, .int 0, .int (-1), .int (-1), .ref pt, .int 0, .int 0, .int 0, .ref so, .ref mo, .ref wh, .ref pf])) := hus hf12
    refine lv_aload_n hx hb dX9_copyOvers_87 rfl (lv_at hl 0 rfl) ?_
    refine g_get C0 G k13 rfl hiX9 0 (by decide) mf_X9_55 rfl dX9_copyOvers_88 ?_
    refine lv_if_le (tgt := 96) hx hb dX9_copyOvers_91 (by decide) (fun c14 => absurd c14 (by decide)) (fun _ => ?_)
    refine lv_iconst (v := 0) hx hb dX9_copyOvers_94 (by decide) ?_
    exact g_zret C0 G hr dX9_copyOvers_95 rfl (Nat.le_of_ble_eq_true rfl) (Nat.le_of_ble_eq_true rfl) (by exact Or.inr (⟨(by first | assumption | (simp_all; done) | (simp only [Int32.lt_iff_toInt_lt, Int32.le_iff_toInt_le] at *; omega)), ⟨_, k13⟩⟩))
set_option maxRecDepth 100000 in
theorem k_X9_storedOvers {l : Launch} (hfl : l.stackTraces = false) {D : va_G} {cy : Nat → ClassId} {f : Hf} {sz : Nat} {m v im kp pa de ide tx pt so mo wh pf : Nat} (p i : Int32) (h_m : f m = some (.inr (11, [.int 0, .int 0, .ref v, .ref im, .ref kp, .ref pa, .ref de, .ref ide, .int 0, .int 0, .ref tx, .int 0, .int (-1), .int (-1), .ref pt, .int 0, .int 0, .int 0, .ref so, .ref mo, .ref wh, .ref pf]))) (h_so : f so = some (.inl (cy 0, 2, .inl (fun _ => 0)))) (h_mo : f mo = some (.inl (cy 0, 2, .inl (fun _ => 0)))) : hMet l yX9_storedOvers cX9_storedOvers 3 (some .float) { frames := 1, cells := 0, slots := 0, locals := 22 } D (hTy cy) f sz [.ref m, .int p, .int i] (hQf (fun r u => ((0 ≤ p ∧ p ≤ 1) ∧ hT u m 2) ∨ ((¬ (0 ≤ p ∧ p ≤ 1)) ∧ hT u m 1)) D f sz) hNo := by
  refine h_enter (by decide) hfl (Nat.le_of_ble_eq_true rfl) ?_
  intro p9 e9 s9 m9 b9 t9 c9 hsz C0 hr hnm G ls hl
  have hx := C0.1.1
  have hb := C0.1.2.1
  have hl : lv_has ls 3 [(0, .ref m), (1, .int p), (2, .int i)] := hl
  refine lv_aload_n hx hb dX9_storedOvers_0 rfl (lv_at hl 0 rfl) ?_
  refine lv_iload_n hx hb dX9_storedOvers_1 rfl (lv_at hl 1 rfl) ?_
  refine lv_iconst (v := 0) hx hb dX9_storedOvers_2 (by decide) ?_
  refine lv_iconst (v := 1) hx hb dX9_storedOvers_3 (by decide) ?_
  refine g_cI C0 G (g_runS C0 G (rest := [.ref m]) (k_X9_isIn hfl p 0 1) hY_X9_isIn mm_X9_76 ms_X9_isIn ⟨(Nat.le_of_ble_eq_true rfl), (Nat.le_of_ble_eq_true rfl)⟩ rfl hl.1 rfl (Nat.le_of_ble_eq_true rfl) dX9_storedOvers_4 ⟨(Nat.le_of_ble_eq_true rfl), (Nat.le_of_ble_eq_true rfl)⟩) (kx_no rfl) (fun r3 u2 H locs hp1 G => ?_)
  obtain ⟨b4, eu2⟩ := hp1
  rw [eu2] at G
  rcases b4 with ⟨rfl, c5⟩ | ⟨rfl, c5⟩
  · refine lv_if_ne (tgt := 14) hx hb dX9_storedOvers_7 (by decide) (fun _ => ?_) (fun c6 => absurd c6 (by decide))
    refine lv_aload_n hx hb dX9_storedOvers_14 rfl (lv_at hl 0 rfl) ?_
    refine g_get C0 G h_m rfl hiX9 18 (by decide) mf_X9_42 rfl dX9_storedOvers_15 ?_
    refine lv_iload_n hx hb dX9_storedOvers_18 rfl (lv_at hl 1 rfl) ?_
    refine g_iald C0 G h_so 0 rfl (hin01 (by assumption)) dX9_storedOvers_19 ?_
    refine lv_topv (v := 0) (rfl) ?_
    refine lv_if_eq (tgt := 39) hx hb dX9_storedOvers_20 (by decide) (fun _ => ?_) (fun c7 => absurd (by decide) c7)
    refine lv_iconst (v := 2) hx hb dX9_storedOvers_39 (by decide) ?_
    refine lv_goto (tgt := 44) hx hb dX9_storedOvers_40 (by decide) ?_
    refine g_put C0 G h_m rfl hiX9 tyX9 tyX9_ok nmX9 0 (by decide) mf_X9_55 rfl rfl rfl rfl (Nat.le_of_ble_eq_true rfl) dX9_storedOvers_44 (fun H locs f8 hf8 G => ?_)
    have k9 : f8 m = some (.inr (11, [.int 2, .int 0, .ref v, .ref im, .ref kp, .ref pa, .ref de, .ref ide, .int 0, .int 0, .ref tx, .int 0, .int (-1), .int (-1), .ref pt, .int 0, .int 0, .int 0, .ref so, .ref mo, .ref wh, .ref pf])) := hus hf8
    refine lv_aload_n hx hb dX9_storedOvers_47 rfl (lv_at hl 0 rfl) ?_
    refine g_get C0 G k9 rfl hiX9 0 (by decide) mf_X9_55 rfl dX9_storedOvers_48 ?_
    refine lv_if_le (tgt := 56) hx hb dX9_storedOvers_51 (by decide) (fun c10 => absurd c10 (by decide)) (fun _ => ?_)
    refine lv_fconst0 hx hb dX9_storedOvers_54 ?_
    exact g_fret C0 G hr dX9_storedOvers_55 (Nat.le_of_ble_eq_true rfl) (Nat.le_of_ble_eq_true rfl) (by exact Or.inl (⟨(by first | assumption | (simp_all; done) | (simp only [Int32.lt_iff_toInt_lt, Int32.le_iff_toInt_le] at *; omega)), ⟨_, k9⟩⟩))
  · refine lv_if_ne (tgt := 14) hx hb dX9_storedOvers_7 (by decide) (fun c11 => absurd (by decide) c11) (fun _ => ?_)
    refine lv_iconst (v := 1) hx hb dX9_storedOvers_10 (by decide) ?_
    refine lv_goto (tgt := 44) hx hb dX9_storedOvers_11 (by decide) ?_
    refine g_put C0 G h_m rfl hiX9 tyX9 tyX9_ok nmX9 0 (by decide) mf_X9_55 rfl rfl rfl rfl (Nat.le_of_ble_eq_true rfl) dX9_storedOvers_44 (fun H locs f12 hf12 G => ?_)
    have k13 : f12 m = some (.inr (11, [.int 1, .int 0, .ref v, .ref im, .ref kp, .ref pa, .ref de, .ref ide, .int 0, .int 0, .ref tx, .int 0, .int (-1), .int (-1), .ref pt, .int 0, .int 0, .int 0, .ref so, .ref mo, .ref wh, .ref pf])) := hus hf12
    refine lv_aload_n hx hb dX9_storedOvers_47 rfl (lv_at hl 0 rfl) ?_
    refine g_get C0 G k13 rfl hiX9 0 (by decide) mf_X9_55 rfl dX9_storedOvers_48 ?_
    refine lv_if_le (tgt := 56) hx hb dX9_storedOvers_51 (by decide) (fun c14 => absurd c14 (by decide)) (fun _ => ?_)
    refine lv_fconst0 hx hb dX9_storedOvers_54 ?_
    exact g_fret C0 G hr dX9_storedOvers_55 (Nat.le_of_ble_eq_true rfl) (Nat.le_of_ble_eq_true rfl) (by exact Or.inr (⟨(by first | assumption | (simp_all; done) | (simp only [Int32.lt_iff_toInt_lt, Int32.le_iff_toInt_le] at *; omega)), ⟨_, k13⟩⟩))
set_option maxRecDepth 100000 in
theorem k_X9_reason {l : Launch} (hfl : l.stackTraces = false) {D : va_G} {cy : Nat → ClassId} {f : Hf} {sz : Nat} {m v im kp pa de ide tx pt so mo wh pf : Nat} (h_m : f m = some (.inr (11, [.int 0, .int 0, .ref v, .ref im, .ref kp, .ref pa, .ref de, .ref ide, .int 0, .int 0, .ref tx, .int 0, .int (-1), .int (-1), .ref pt, .int 0, .int 0, .int 0, .ref so, .ref mo, .ref wh, .ref pf]))) : hMet l yX9_reason cX9_reason 1 (some .int) { frames := 0, cells := 0, slots := 0, locals := 0 } D (hTy cy) f sz [.ref m] (hQi (fun r u => r = 0 ∧ True) D f sz) hNo := by
  refine h_enter (by decide) hfl (Nat.le_of_ble_eq_true rfl) ?_
  intro p9 e9 s9 m9 b9 t9 c9 hsz C0 hr hnm G ls hl
  have hx := C0.1.1
  have hb := C0.1.2.1
  have hl : lv_has ls 1 [(0, .ref m)] := hl
  refine lv_aload_n hx hb dX9_reason_0 rfl (lv_at hl 0 rfl) ?_
  refine lv_iconst (v := 0) hx hb dX9_reason_1 (by decide) ?_
  refine g_put C0 G h_m rfl hiX9 tyX9 tyX9_ok nmX9 0 (by decide) mf_X9_55 rfl rfl rfl rfl (Nat.le_of_ble_eq_true rfl) dX9_reason_2 (fun H locs f1 hf1 G => ?_)
  have k2 : f1 m = some (.inr (11, [.int 0, .int 0, .ref v, .ref im, .ref kp, .ref pa, .ref de, .ref ide, .int 0, .int 0, .ref tx, .int 0, .int (-1), .int (-1), .ref pt, .int 0, .int 0, .int 0, .ref so, .ref mo, .ref wh, .ref pf])) := hus hf1
  refine lv_aload_n hx hb dX9_reason_5 rfl (lv_at hl 0 rfl) ?_
  refine g_get C0 G k2 rfl hiX9 1 (by decide) mf_X9_166 rfl dX9_reason_6 ?_
  exact g_iret C0 G hr dX9_reason_9 (Nat.le_of_ble_eq_true rfl) (Nat.le_of_ble_eq_true rfl) (by exact ⟨rfl, trivial⟩)
set_option maxRecDepth 100000 in
theorem k_X9_commandCount {l : Launch} (hfl : l.stackTraces = false) {D : va_G} {cy : Nat → ClassId} {f : Hf} {sz : Nat} {m v im kp pa de ide tx pt so mo wh pf : Nat} (h_m : f m = some (.inr (11, [.int 0, .int 0, .ref v, .ref im, .ref kp, .ref pa, .ref de, .ref ide, .int 0, .int 0, .ref tx, .int 0, .int (-1), .int (-1), .ref pt, .int 0, .int 0, .int 0, .ref so, .ref mo, .ref wh, .ref pf]))) (h_v : f v = some (.inl (cy 0, 6441, .inl (fun _ => 0)))) : hMet l yX9_commandCount cX9_commandCount 1 (some .int) { frames := 0, cells := 0, slots := 0, locals := 0 } D (hTy cy) f sz [.ref m] (hQi (fun r u => r = 0 ∧ True) D f sz) hNo := by
  refine h_enter (by decide) hfl (Nat.le_of_ble_eq_true rfl) ?_
  intro p9 e9 s9 m9 b9 t9 c9 hsz C0 hr hnm G ls hl
  have hx := C0.1.1
  have hb := C0.1.2.1
  have hl : lv_has ls 1 [(0, .ref m)] := hl
  refine lv_aload_n hx hb dX9_commandCount_0 rfl (lv_at hl 0 rfl) ?_
  refine lv_iconst (v := 0) hx hb dX9_commandCount_1 (by decide) ?_
  refine g_put C0 G h_m rfl hiX9 tyX9 tyX9_ok nmX9 0 (by decide) mf_X9_55 rfl rfl rfl rfl (Nat.le_of_ble_eq_true rfl) dX9_commandCount_2 (fun H locs f1 hf1 G => ?_)
  have k2 : f1 m = some (.inr (11, [.int 0, .int 0, .ref v, .ref im, .ref kp, .ref pa, .ref de, .ref ide, .int 0, .int 0, .ref tx, .int 0, .int (-1), .int (-1), .ref pt, .int 0, .int 0, .int 0, .ref so, .ref mo, .ref wh, .ref pf])) := hus hf1
  refine lv_aload_n hx hb dX9_commandCount_5 rfl (lv_at hl 0 rfl) ?_
  refine g_get C0 G k2 rfl hiX9 2 (by decide) mf_X9_9 rfl dX9_commandCount_6 ?_
  refine lv_bipush (v := 24) hx hb dX9_commandCount_9 (by decide) ?_
  have k3 : f1 v = some (.inl (cy 0, 6441, .inl (fun _ => 0))) := hup hf1 (hne h_v h_m (by intro q; cases q)) h_v
  refine g_iald C0 G k3 0 rfl (by unfold vp_in; decide) dX9_commandCount_11 ?_
  refine lv_topv (v := 0) (rfl) ?_
  exact g_iret C0 G hr dX9_commandCount_12 (Nat.le_of_ble_eq_true rfl) (Nat.le_of_ble_eq_true rfl) (by exact ⟨rfl, trivial⟩)
set_option maxRecDepth 100000 in
theorem k_X9_undo {l : Launch} (hfl : l.stackTraces = false) {D : va_G} {cy : Nat → ClassId} {f : Hf} {sz : Nat} {m v im kp pa de ide tx pt so mo wh pf : Nat} (h_m : f m = some (.inr (11, [.int 0, .int 0, .ref v, .ref im, .ref kp, .ref pa, .ref de, .ref ide, .int 0, .int 0, .ref tx, .int 0, .int (-1), .int (-1), .ref pt, .int 0, .int 0, .int 0, .ref so, .ref mo, .ref wh, .ref pf]))) : hMet l yX9_undo cX9_undo 2 (some .int) { frames := 0, cells := 0, slots := 0, locals := 0 } D (hTy cy) f sz [.ref m] (hQi (fun r u => hT u m 1) D f sz) hNo := by
  refine h_enter (by decide) hfl (Nat.le_of_ble_eq_true rfl) ?_
  intro p9 e9 s9 m9 b9 t9 c9 hsz C0 hr hnm G ls hl
  have hx := C0.1.1
  have hb := C0.1.2.1
  have hl : lv_has ls 2 [(0, .ref m)] := hl
  refine lv_aload_n hx hb dX9_undo_0 rfl (lv_at hl 0 rfl) ?_
  refine lv_aload_n hx hb dX9_undo_1 rfl (lv_at hl 0 rfl) ?_
  refine g_get C0 G h_m rfl hiX9 8 (by decide) mf_X9_84 rfl dX9_undo_2 ?_
  refine lv_if_ne (tgt := 12) hx hb dX9_undo_5 (by decide) (fun c1 => absurd (by decide) c1) (fun _ => ?_)
  refine lv_iconst (v := 1) hx hb dX9_undo_8 (by decide) ?_
  refine lv_goto (tgt := 13) hx hb dX9_undo_9 (by decide) ?_
  refine g_put C0 G h_m rfl hiX9 tyX9 tyX9_ok nmX9 0 (by decide) mf_X9_55 rfl rfl rfl rfl (Nat.le_of_ble_eq_true rfl) dX9_undo_13 (fun H locs f2 hf2 G => ?_)
  have k3 : f2 m = some (.inr (11, [.int 1, .int 0, .ref v, .ref im, .ref kp, .ref pa, .ref de, .ref ide, .int 0, .int 0, .ref tx, .int 0, .int (-1), .int (-1), .ref pt, .int 0, .int 0, .int 0, .ref so, .ref mo, .ref wh, .ref pf])) := hus hf2
  refine lv_aload_n hx hb dX9_undo_16 rfl (lv_at hl 0 rfl) ?_
  refine g_get C0 G k3 rfl hiX9 0 (by decide) mf_X9_55 rfl dX9_undo_17 ?_
  refine lv_iconst (v := 1) hx hb dX9_undo_20 (by decide) ?_
  refine lv_icmp_ne (tgt := 32) hx hb dX9_undo_21 (by decide) (fun c4 => absurd (by decide) c4) (fun _ => ?_)
  refine lv_aload_n hx hb dX9_undo_24 rfl (lv_at hl 0 rfl) ?_
  refine lv_bipush (v := 7) hx hb dX9_undo_25 (by decide) ?_
  refine g_put C0 G k3 rfl hiX9 tyX9 tyX9_ok nmX9 1 (by decide) mf_X9_166 rfl rfl rfl rfl (Nat.le_of_ble_eq_true rfl) dX9_undo_27 (fun H locs f5 hf5 G => ?_)
  have k6 : f5 m = some (.inr (11, [.int 1, .int 7, .ref v, .ref im, .ref kp, .ref pa, .ref de, .ref ide, .int 0, .int 0, .ref tx, .int 0, .int (-1), .int (-1), .ref pt, .int 0, .int 0, .int 0, .ref so, .ref mo, .ref wh, .ref pf])) := hus hf5
  refine lv_iconst (v := 0) hx hb dX9_undo_30 (by decide) ?_
  exact g_iret C0 G hr dX9_undo_31 (Nat.le_of_ble_eq_true rfl) (Nat.le_of_ble_eq_true rfl) (by exact ⟨_, k6⟩)
set_option maxRecDepth 100000 in
theorem k_X9_isReplayed {l : Launch} (hfl : l.stackTraces = false) {D : va_G} {cy : Nat → ClassId} {f : Hf} {sz : Nat} {m v im kp pa de ide tx pt so mo wh pf : Nat} (h_m : f m = some (.inr (11, [.int 0, .int 0, .ref v, .ref im, .ref kp, .ref pa, .ref de, .ref ide, .int 0, .int 0, .ref tx, .int 0, .int (-1), .int (-1), .ref pt, .int 0, .int 0, .int 0, .ref so, .ref mo, .ref wh, .ref pf]))) (h_v : f v = some (.inl (cy 0, 6441, .inl (fun _ => 0)))) : hMet l yX9_isReplayed cX9_isReplayed 3 (some .boolean) { frames := 1, cells := 0, slots := 0, locals := 21 } D (hTy cy) f sz [.ref m] (hQi (fun r u => hT u m 1) D f sz) hNo := by
  refine h_enter (by decide) hfl (Nat.le_of_ble_eq_true rfl) ?_
  intro p9 e9 s9 m9 b9 t9 c9 hsz C0 hr hnm G ls hl
  have hx := C0.1.1
  have hb := C0.1.2.1
  have hl : lv_has ls 3 [(0, .ref m)] := hl
  refine lv_aload_n hx hb dX9_isReplayed_0 rfl (lv_at hl 0 rfl) ?_
  refine lv_iconst (v := 0) hx hb dX9_isReplayed_1 (by decide) ?_
  refine g_put C0 G h_m rfl hiX9 tyX9 tyX9_ok nmX9 0 (by decide) mf_X9_55 rfl rfl rfl rfl (Nat.le_of_ble_eq_true rfl) dX9_isReplayed_2 (fun H locs f1 hf1 G => ?_)
  have k2 : f1 m = some (.inr (11, [.int 0, .int 0, .ref v, .ref im, .ref kp, .ref pa, .ref de, .ref ide, .int 0, .int 0, .ref tx, .int 0, .int (-1), .int (-1), .ref pt, .int 0, .int 0, .int 0, .ref so, .ref mo, .ref wh, .ref pf])) := hus hf1
  refine lv_aload_n hx hb dX9_isReplayed_5 rfl (lv_at hl 0 rfl) ?_
  refine lv_iconst (v := 1) hx hb dX9_isReplayed_6 (by decide) ?_
  have k3 : f1 v = some (.inl (cy 0, 6441, .inl (fun _ => 0))) := hup hf1 (hne h_v h_m (by intro q; cases q)) h_v
  refine g_cI C0 G (g_runV C0 G (rest := []) (k_X9_hasMatch hfl 1 k2 k3) k2 rfl hY_X9_hasMatch mm_X9_221 mi_X9_hasMatch ml_X9_hasMatch ⟨(Nat.le_of_ble_eq_true rfl), (Nat.le_of_ble_eq_true rfl)⟩ rfl hl.1 rfl (Nat.le_of_ble_eq_true rfl) dX9_isReplayed_7 ⟨(Nat.le_of_ble_eq_true rfl), (Nat.le_of_ble_eq_true rfl)⟩) (kx_no rfl) (fun r6 u5 H locs hp4 G => ?_)
  obtain ⟨rfl, e7⟩ := hp4
  have k8 : u5 m = some (.inr (11, [.int 1, .int 1, .ref v, .ref im, .ref kp, .ref pa, .ref de, .ref ide, .int 0, .int 0, .ref tx, .int 0, .int (-1), .int (-1), .ref pt, .int 0, .int 0, .int 0, .ref so, .ref mo, .ref wh, .ref pf])) := hus e7
  refine lv_if_ne (tgt := 15) hx hb dX9_isReplayed_10 (by decide) (fun c9 => absurd (by decide) c9) (fun _ => ?_)
  refine lv_iconst (v := 0) hx hb dX9_isReplayed_13 (by decide) ?_
  exact g_zret C0 G hr dX9_isReplayed_14 rfl (Nat.le_of_ble_eq_true rfl) (Nat.le_of_ble_eq_true rfl) (by exact ⟨_, k8⟩)
set_option maxRecDepth 100000 in
theorem k_X9_snapshot {l : Launch} (hfl : l.stackTraces = false) {D : va_G} {cy : Nat → ClassId} {f : Hf} {sz : Nat} {m v im kp pa de ide tx pt so mo wh pf : Nat} (h_m : f m = some (.inr (11, [.int 0, .int 0, .ref v, .ref im, .ref kp, .ref pa, .ref de, .ref ide, .int 0, .int 0, .ref tx, .int 0, .int (-1), .int (-1), .ref pt, .int 0, .int 0, .int 0, .ref so, .ref mo, .ref wh, .ref pf]))) (h_v : f v = some (.inl (cy 0, 6441, .inl (fun _ => 0)))) : hMet l yX9_snapshot cX9_snapshot 1 (some .int) { frames := 1, cells := 0, slots := 0, locals := 21 } D (hTy cy) f sz [.ref m] (hQi (fun r u => hT u m 1) D f sz) hNo := by
  refine h_enter (by decide) hfl (Nat.le_of_ble_eq_true rfl) ?_
  intro p9 e9 s9 m9 b9 t9 c9 hsz C0 hr hnm G ls hl
  have hx := C0.1.1
  have hb := C0.1.2.1
  have hl : lv_has ls 1 [(0, .ref m)] := hl
  refine lv_aload_n hx hb dX9_snapshot_0 rfl (lv_at hl 0 rfl) ?_
  refine lv_iconst (v := 0) hx hb dX9_snapshot_1 (by decide) ?_
  refine g_put C0 G h_m rfl hiX9 tyX9 tyX9_ok nmX9 0 (by decide) mf_X9_55 rfl rfl rfl rfl (Nat.le_of_ble_eq_true rfl) dX9_snapshot_2 (fun H locs f1 hf1 G => ?_)
  have k2 : f1 m = some (.inr (11, [.int 0, .int 0, .ref v, .ref im, .ref kp, .ref pa, .ref de, .ref ide, .int 0, .int 0, .ref tx, .int 0, .int (-1), .int (-1), .ref pt, .int 0, .int 0, .int 0, .ref so, .ref mo, .ref wh, .ref pf])) := hus hf1
  refine lv_aload_n hx hb dX9_snapshot_5 rfl (lv_at hl 0 rfl) ?_
  refine lv_iconst (v := 1) hx hb dX9_snapshot_6 (by decide) ?_
  have k3 : f1 v = some (.inl (cy 0, 6441, .inl (fun _ => 0))) := hup hf1 (hne h_v h_m (by intro q; cases q)) h_v
  refine g_cI C0 G (g_runV C0 G (rest := []) (k_X9_hasMatch hfl 1 k2 k3) k2 rfl hY_X9_hasMatch mm_X9_221 mi_X9_hasMatch ml_X9_hasMatch ⟨(Nat.le_of_ble_eq_true rfl), (Nat.le_of_ble_eq_true rfl)⟩ rfl hl.1 rfl (Nat.le_of_ble_eq_true rfl) dX9_snapshot_7 ⟨(Nat.le_of_ble_eq_true rfl), (Nat.le_of_ble_eq_true rfl)⟩) (kx_no rfl) (fun r6 u5 H locs hp4 G => ?_)
  obtain ⟨rfl, e7⟩ := hp4
  have k8 : u5 m = some (.inr (11, [.int 1, .int 1, .ref v, .ref im, .ref kp, .ref pa, .ref de, .ref ide, .int 0, .int 0, .ref tx, .int 0, .int (-1), .int (-1), .ref pt, .int 0, .int 0, .int 0, .ref so, .ref mo, .ref wh, .ref pf])) := hus e7
  refine lv_if_ne (tgt := 15) hx hb dX9_snapshot_10 (by decide) (fun c9 => absurd (by decide) c9) (fun _ => ?_)
  refine lv_iconst (v := 0) hx hb dX9_snapshot_13 (by decide) ?_
  exact g_iret C0 G hr dX9_snapshot_14 (Nat.le_of_ble_eq_true rfl) (Nat.le_of_ble_eq_true rfl) (by exact ⟨_, k8⟩)
set_option maxRecDepth 100000 in
theorem k_X9_restore {l : Launch} (hfl : l.stackTraces = false) {D : va_G} {cy : Nat → ClassId} {f : Hf} {sz : Nat} {m v im kp pa de ide tx pt so mo wh pf : Nat} (h_m : f m = some (.inr (11, [.int 0, .int 0, .ref v, .ref im, .ref kp, .ref pa, .ref de, .ref ide, .int 0, .int 0, .ref tx, .int 0, .int (-1), .int (-1), .ref pt, .int 0, .int 0, .int 0, .ref so, .ref mo, .ref wh, .ref pf]))) : hMet l yX9_restore cX9_restore 1 (some .int) { frames := 0, cells := 0, slots := 0, locals := 0 } D (hTy cy) f sz [.ref m] (hQi (fun r u => hT u m 1) D f sz) hNo := by
  refine h_enter (by decide) hfl (Nat.le_of_ble_eq_true rfl) ?_
  intro p9 e9 s9 m9 b9 t9 c9 hsz C0 hr hnm G ls hl
  have hx := C0.1.1
  have hb := C0.1.2.1
  have hl : lv_has ls 1 [(0, .ref m)] := hl
  refine lv_aload_n hx hb dX9_restore_0 rfl (lv_at hl 0 rfl) ?_
  refine lv_aload_n hx hb dX9_restore_1 rfl (lv_at hl 0 rfl) ?_
  refine g_get C0 G h_m rfl hiX9 9 (by decide) mf_X9_240 rfl dX9_restore_2 ?_
  refine lv_if_eq (tgt := 12) hx hb dX9_restore_5 (by decide) (fun _ => ?_) (fun c1 => absurd (by decide) c1)
  refine lv_iconst (v := 1) hx hb dX9_restore_12 (by decide) ?_
  refine g_put C0 G h_m rfl hiX9 tyX9 tyX9_ok nmX9 0 (by decide) mf_X9_55 rfl rfl rfl rfl (Nat.le_of_ble_eq_true rfl) dX9_restore_13 (fun H locs f2 hf2 G => ?_)
  have k3 : f2 m = some (.inr (11, [.int 1, .int 0, .ref v, .ref im, .ref kp, .ref pa, .ref de, .ref ide, .int 0, .int 0, .ref tx, .int 0, .int (-1), .int (-1), .ref pt, .int 0, .int 0, .int 0, .ref so, .ref mo, .ref wh, .ref pf])) := hus hf2
  refine lv_aload_n hx hb dX9_restore_16 rfl (lv_at hl 0 rfl) ?_
  refine g_get C0 G k3 rfl hiX9 9 (by decide) mf_X9_240 rfl dX9_restore_17 ?_
  refine lv_if_ne (tgt := 31) hx hb dX9_restore_20 (by decide) (fun c4 => absurd (by decide) c4) (fun _ => ?_)
  refine lv_aload_n hx hb dX9_restore_23 rfl (lv_at hl 0 rfl) ?_
  refine lv_bipush (v := 7) hx hb dX9_restore_24 (by decide) ?_
  refine g_put C0 G k3 rfl hiX9 tyX9 tyX9_ok nmX9 1 (by decide) mf_X9_166 rfl rfl rfl rfl (Nat.le_of_ble_eq_true rfl) dX9_restore_26 (fun H locs f5 hf5 G => ?_)
  have k6 : f5 m = some (.inr (11, [.int 1, .int 7, .ref v, .ref im, .ref kp, .ref pa, .ref de, .ref ide, .int 0, .int 0, .ref tx, .int 0, .int (-1), .int (-1), .ref pt, .int 0, .int 0, .int 0, .ref so, .ref mo, .ref wh, .ref pf])) := hus hf5
  refine lv_iconst (v := 0) hx hb dX9_restore_29 (by decide) ?_
  exact g_iret C0 G hr dX9_restore_30 (Nat.le_of_ble_eq_true rfl) (Nat.le_of_ble_eq_true rfl) (by exact ⟨_, k6⟩)
set_option maxRecDepth 100000 in
theorem k_X9_append {l : Launch} (hfl : l.stackTraces = false) {D : va_G} {cy : Nat → ClassId} {f : Hf} {sz : Nat} {m v im kp pa de ide tx pt so mo wh pf : Nat} (c0 : Int32) (h_m : f m = some (.inr (11, [.int 0, .int 0, .ref v, .ref im, .ref kp, .ref pa, .ref de, .ref ide, .int 0, .int 0, .ref tx, .int 0, .int (-1), .int (-1), .ref pt, .int 0, .int 0, .int 0, .ref so, .ref mo, .ref wh, .ref pf]))) (h_tx : f tx = some (.inl (cy 0, 60, .inl (fun _ => 0)))) : hMet l yX9_append cX9_append 2 (some .int) { frames := 1, cells := 0, slots := 0, locals := 22 } D (hTy cy) f sz [.ref m, .int c0] (hQi (fun r u => ((32 ≤ c0 ∧ c0 ≤ 126) ∧ hT u m 0 ∧ r = 1 ∧ hFrL f u [m, tx]) ∨ (¬ (32 ≤ c0 ∧ c0 ≤ 126) ∧ hT u m 1)) D f sz) hNo := by
  refine h_enter (by decide) hfl (Nat.le_of_ble_eq_true rfl) ?_
  intro p9 e9 s9 m9 b9 t9 c9 hsz C0 hr hnm G ls hl
  have hx := C0.1.1
  have hb := C0.1.2.1
  have hl : lv_has ls 2 [(0, .ref m), (1, .int c0)] := hl
  refine lv_aload_n hx hb dX9_append_0 rfl (lv_at hl 0 rfl) ?_
  refine lv_iload_n hx hb dX9_append_1 rfl (lv_at hl 1 rfl) ?_
  refine lv_bipush (v := 32) hx hb dX9_append_2 (by decide) ?_
  refine lv_bipush (v := 126) hx hb dX9_append_4 (by decide) ?_
  refine g_cI C0 G (g_runS C0 G (rest := [.ref m]) (k_X9_isIn hfl c0 32 126) hY_X9_isIn mm_X9_76 ms_X9_isIn ⟨(Nat.le_of_ble_eq_true rfl), (Nat.le_of_ble_eq_true rfl)⟩ rfl hl.1 rfl (Nat.le_of_ble_eq_true rfl) dX9_append_6 ⟨(Nat.le_of_ble_eq_true rfl), (Nat.le_of_ble_eq_true rfl)⟩) (kx_no rfl) (fun r3 u2 H locs hp1 G => ?_)
  obtain ⟨b4, eu2⟩ := hp1
  rw [eu2] at G
  rcases b4 with ⟨rfl, c5⟩ | ⟨rfl, c5⟩
  · refine lv_if_ne (tgt := 16) hx hb dX9_append_9 (by decide) (fun _ => ?_) (fun c6 => absurd c6 (by decide))
    refine lv_aload_n hx hb dX9_append_16 rfl (lv_at hl 0 rfl) ?_
    refine g_get C0 G h_m rfl hiX9 11 (by decide) mf_X9_191 rfl dX9_append_17 ?_
    refine lv_bipush (v := 60) hx hb dX9_append_20 (by decide) ?_
    refine lv_icmp_ne (tgt := 29) hx hb dX9_append_22 (by decide) (fun _ => ?_) (fun c7 => absurd c7 (by decide))
    refine lv_iconst (v := 0) hx hb dX9_append_29 (by decide) ?_
    refine g_put C0 G h_m rfl hiX9 tyX9 tyX9_ok nmX9 0 (by decide) mf_X9_55 rfl rfl rfl rfl (Nat.le_of_ble_eq_true rfl) dX9_append_30 (fun H locs f8 hf8 G => ?_)
    have k9 : f8 m = some (.inr (11, [.int 0, .int 0, .ref v, .ref im, .ref kp, .ref pa, .ref de, .ref ide, .int 0, .int 0, .ref tx, .int 0, .int (-1), .int (-1), .ref pt, .int 0, .int 0, .int 0, .ref so, .ref mo, .ref wh, .ref pf])) := hus hf8
    refine lv_aload_n hx hb dX9_append_33 rfl (lv_at hl 0 rfl) ?_
    refine g_get C0 G k9 rfl hiX9 0 (by decide) mf_X9_55 rfl dX9_append_34 ?_
    refine lv_if_le (tgt := 42) hx hb dX9_append_37 (by decide) (fun _ => ?_) (fun c10 => absurd (by decide) c10)
    refine lv_aload_n hx hb dX9_append_42 rfl (lv_at hl 0 rfl) ?_
    refine g_get C0 G k9 rfl hiX9 10 (by decide) mf_X9_29 rfl dX9_append_43 ?_
    refine lv_aload_n hx hb dX9_append_46 rfl (lv_at hl 0 rfl) ?_
    refine g_get C0 G k9 rfl hiX9 11 (by decide) mf_X9_191 rfl dX9_append_47 ?_
    refine lv_iload_n hx hb dX9_append_50 rfl (lv_at hl 1 rfl) ?_
    have k11 : f8 tx = some (.inl (cy 0, 60, .inl (fun _ => 0))) := hup hf8 (hne h_tx h_m (by intro q; cases q)) h_tx
    refine g_iast C0 G k11 0 rfl (by unfold vp_in; decide) dX9_append_51 (fun H locs f12 hf12 G => ?_)
    have k13 : f12 tx = some (.inl (cy 0, 60, .inl (upd (fun _ => 0) 0 c0))) := hus hf12
    refine lv_aload_n hx hb dX9_append_52 rfl (lv_at hl 0 rfl) ?_
    refine lv_dup hx hb dX9_append_53 rfl ?_
    have k14 : f12 m = some (.inr (11, [.int 0, .int 0, .ref v, .ref im, .ref kp, .ref pa, .ref de, .ref ide, .int 0, .int 0, .ref tx, .int 0, .int (-1), .int (-1), .ref pt, .int 0, .int 0, .int 0, .ref so, .ref mo, .ref wh, .ref pf])) := hup hf12 (hne k9 k11 (by intro q; cases q)) k9
    refine g_get C0 G k14 rfl hiX9 11 (by decide) mf_X9_191 rfl dX9_append_54 ?_
    refine lv_iconst (v := 1) hx hb dX9_append_57 (by decide) ?_
    refine lv_iadd hx hb dX9_append_58 ?_
    refine lv_topv (v := 1) (by decide) ?_
    refine g_put C0 G k14 rfl hiX9 tyX9 tyX9_ok nmX9 11 (by decide) mf_X9_191 rfl rfl rfl rfl (Nat.le_of_ble_eq_true rfl) dX9_append_59 (fun H locs f15 hf15 G => ?_)
    have k16 : f15 m = some (.inr (11, [.int 0, .int 0, .ref v, .ref im, .ref kp, .ref pa, .ref de, .ref ide, .int 0, .int 0, .ref tx, .int 1, .int (-1), .int (-1), .ref pt, .int 0, .int 0, .int 0, .ref so, .ref mo, .ref wh, .ref pf])) := hus hf15
    refine lv_aload_n hx hb dX9_append_62 rfl (lv_at hl 0 rfl) ?_
    refine g_get C0 G k16 rfl hiX9 11 (by decide) mf_X9_191 rfl dX9_append_63 ?_
    exact g_iret C0 G hr dX9_append_66 (Nat.le_of_ble_eq_true rfl) (Nat.le_of_ble_eq_true rfl) (by exact Or.inl ⟨by first | assumption | omega, ⟨_, k16⟩, rfl, fun a9 e9 h7 h8 => hup hf15 (fun q => h7 (by rw [q]; simp)) (hup hf12 (fun q => h7 (by rw [q]; simp)) (hup hf8 (fun q => h7 (by rw [q]; simp)) (h8)))⟩)
  · refine lv_if_ne (tgt := 16) hx hb dX9_append_9 (by decide) (fun c17 => absurd (by decide) c17) (fun _ => ?_)
    refine lv_iconst (v := 1) hx hb dX9_append_12 (by decide) ?_
    refine lv_goto (tgt := 30) hx hb dX9_append_13 (by decide) ?_
    refine g_put C0 G h_m rfl hiX9 tyX9 tyX9_ok nmX9 0 (by decide) mf_X9_55 rfl rfl rfl rfl (Nat.le_of_ble_eq_true rfl) dX9_append_30 (fun H locs f18 hf18 G => ?_)
    have k19 : f18 m = some (.inr (11, [.int 1, .int 0, .ref v, .ref im, .ref kp, .ref pa, .ref de, .ref ide, .int 0, .int 0, .ref tx, .int 0, .int (-1), .int (-1), .ref pt, .int 0, .int 0, .int 0, .ref so, .ref mo, .ref wh, .ref pf])) := hus hf18
    refine lv_aload_n hx hb dX9_append_33 rfl (lv_at hl 0 rfl) ?_
    refine g_get C0 G k19 rfl hiX9 0 (by decide) mf_X9_55 rfl dX9_append_34 ?_
    refine lv_if_le (tgt := 42) hx hb dX9_append_37 (by decide) (fun c20 => absurd c20 (by decide)) (fun _ => ?_)
    refine lv_iconst (v := 0) hx hb dX9_append_40 (by decide) ?_
    exact g_iret C0 G hr dX9_append_41 (Nat.le_of_ble_eq_true rfl) (Nat.le_of_ble_eq_true rfl) (by exact Or.inr ⟨by first | assumption | omega, ⟨_, k19⟩⟩)
set_option maxRecDepth 100000 in
theorem k_X9_share {l : Launch} (hfl : l.stackTraces = false) {D : va_G} {cy : Nat → ClassId} {f : Hf} {sz : Nat} {m v im kp pa de ide tx pt so mo wh pf : Nat} {c_th c_re c_un c_hi c_tn c_fa c_rf c_ps c_pl c_to : Int32} {g : Nat → Int32} (h_m : f m = some (.inr (11, [.int c_th, .int c_re, .ref v, .ref im, .ref kp, .ref pa, .ref de, .ref ide, .int c_un, .int c_hi, .ref tx, .int c_tn, .int c_fa, .int c_rf, .ref pt, .int c_ps, .int c_pl, .int c_to, .ref so, .ref mo, .ref wh, .ref pf]))) (h_v : f v = some (.inl (cy 0, 6441, .inl g))) (h22 : g 22 = 0) : hMet l yX9_share cX9_share 5 none { frames := 0, cells := 0, slots := 0, locals := 0 } D (hTy cy) f sz [.ref m] (hQv (fun u => hFrL f u [v]) D f sz) hNo := by
  refine h_enter (by decide) hfl (Nat.le_of_ble_eq_true rfl) ?_
  intro p9 e9 s9 m9 b9 t9 c9 hsz C0 hr hnm G ls hl
  have hx := C0.1.1
  have hb := C0.1.2.1
  have hl : lv_has ls 5 [(0, .ref m)] := hl
  refine lv_aload_n hx hb dX9_share_0 rfl (lv_at hl 0 rfl) ?_
  refine g_get C0 G h_m rfl hiX9 2 (by decide) mf_X9_9 rfl dX9_share_1 ?_
  refine lv_bipush (v := 6) hx hb dX9_share_4 (by decide) ?_
  refine g_iald C0 G h_v 0 rfl (by unfold vp_in; decide) dX9_share_6 ?_
  refine lv_istore_n (lv' := [(1, .int (g 6)), (0, .ref m)]) hx hb dX9_share_7 rfl hl (by decide) rfl (fun ls hl => ?_)
  refine lv_aload_n hx hb dX9_share_8 rfl (lv_at hl 1 rfl) ?_
  refine g_get C0 G h_m rfl hiX9 2 (by decide) mf_X9_9 rfl dX9_share_9 ?_
  refine lv_bipush (v := 7) hx hb dX9_share_12 (by decide) ?_
  refine g_iald C0 G h_v 0 rfl (by unfold vp_in; decide) dX9_share_14 ?_
  refine lv_istore_n (lv' := [(2, .int (g 7)), (1, .int (g 6)), (0, .ref m)]) hx hb dX9_share_15 rfl hl (by decide) rfl (fun ls hl => ?_)
  refine lv_sipush (v := 841) hx hb dX9_share_16 (by decide) ?_
  refine lv_bipush (v := 8) hx hb dX9_share_19 (by decide) ?_
  refine lv_aload_n hx hb dX9_share_21 rfl (lv_at hl 2 rfl) ?_
  refine g_get C0 G h_m rfl hiX9 2 (by decide) mf_X9_9 rfl dX9_share_22 ?_
  refine lv_bipush (v := 22) hx hb dX9_share_25 (by decide) ?_
  refine g_iald C0 G h_v 0 rfl (by unfold vp_in; decide) dX9_share_27 ?_
  refine lv_topv (v := 0) (by first | exact h22 | simp [upd, h22]) ?_
  refine lv_imul hx hb dX9_share_28 ?_
  refine lv_topv (v := 0) (by decide) ?_
  refine lv_iadd hx hb dX9_share_29 ?_
  refine lv_topv (v := 841) (by decide) ?_
  refine lv_istore_n (lv' := [(3, .int 841), (2, .int (g 7)), (1, .int (g 6)), (0, .ref m)]) hx hb dX9_share_30 rfl hl (by decide) rfl (fun ls hl => ?_)
  refine lv_iconst (v := 0) hx hb dX9_share_31 (by decide) ?_
  refine lv_istore (lv' := [(4, .int 0), (3, .int 841), (2, .int (g 7)), (1, .int (g 6)), (0, .ref m)]) hx hb dX9_share_32 hl (by decide) rfl (fun ls hl => ?_)
  refine lv_iload hx hb dX9_share_34 (lv_at hl 0 rfl) ?_
  refine lv_bipush (v := 8) hx hb dX9_share_36 (by decide) ?_
  refine lv_icmp_ge (tgt := 57) hx hb dX9_share_38 (by decide) (fun c1 => absurd c1 (by decide)) (fun _ => ?_)
  refine lv_aload_n hx hb dX9_share_41 rfl (lv_at hl 4 rfl) ?_
  refine g_get C0 G h_m rfl hiX9 2 (by decide) mf_X9_9 rfl dX9_share_42 ?_
  refine lv_iload_n hx hb dX9_share_45 rfl (lv_at hl 1 rfl) ?_
  refine lv_iload hx hb dX9_share_46 (lv_at hl 0 rfl) ?_
  refine lv_iadd hx hb dX9_share_48 ?_
  refine lv_topv (v := 841) (by decide) ?_
  refine lv_iconst (v := 0) hx hb dX9_share_49 (by decide) ?_
  refine g_iast C0 G h_v 0 rfl (by unfold vp_in; decide) dX9_share_50 (fun H locs f2 hf2 G => ?_)
  have k3 : f2 v = some (.inl (cy 0, 6441, .inl (upd g 841 0))) := hus hf2
  refine lv_iinc (v := 1) (lv' := [(4, .int 1), (3, .int 841), (2, .int (g 7)), (1, .int (g 6)), (0, .ref m)]) hx hb dX9_share_51 hl (k := 0) rfl (by exact (by decide)) (by decide) rfl (fun ls hl => ?_)
  refine lv_goto (tgt := 34) hx hb dX9_share_54 (by decide) ?_
  refine lv_iload hx hb dX9_share_34 (lv_at hl 0 rfl) ?_
  refine lv_bipush (v := 8) hx hb dX9_share_36 (by decide) ?_
  refine lv_icmp_ge (tgt := 57) hx hb dX9_share_38 (by decide) (fun c5 => absurd c5 (by decide)) (fun _ => ?_)
  refine lv_aload_n hx hb dX9_share_41 rfl (lv_at hl 4 rfl) ?_
  have k6 : f2 m = some (.inr (11, [.int c_th, .int c_re, .ref v, .ref im, .ref kp, .ref pa, .ref de, .ref ide, .int c_un, .int c_hi, .ref tx, .int c_tn, .int c_fa, .int c_rf, .ref pt, .int c_ps, .int c_pl, .int c_to, .ref so, .ref mo, .ref wh, .ref pf])) := hup hf2 (hne h_m h_v (by intro q; cases q)) h_m
  refine g_get C0 G k6 rfl hiX9 2 (by decide) mf_X9_9 rfl dX9_share_42 ?_
  refine lv_iload_n hx hb dX9_share_45 rfl (lv_at hl 1 rfl) ?_
  refine lv_iload hx hb dX9_share_46 (lv_at hl 0 rfl) ?_
  refine lv_iadd hx hb dX9_share_48 ?_
  refine lv_topv (v := 842) (by decide) ?_
  refine lv_iconst (v := 0) hx hb dX9_share_49 (by decide) ?_
  refine g_iast C0 G k3 0 rfl (by unfold vp_in; decide) dX9_share_50 (fun H locs f7 hf7 G => ?_)
  have k8 : f7 v = some (.inl (cy 0, 6441, .inl (upd (upd g 841 0) 842 0))) := hus hf7
  refine lv_iinc (v := 2) (lv' := [(4, .int 2), (3, .int 841), (2, .int (g 7)), (1, .int (g 6)), (0, .ref m)]) hx hb dX9_share_51 hl (k := 0) rfl (by exact (by decide)) (by decide) rfl (fun ls hl => ?_)
  refine lv_goto (tgt := 34) hx hb dX9_share_54 (by decide) ?_
  refine lv_iload hx hb dX9_share_34 (lv_at hl 0 rfl) ?_
  refine lv_bipush (v := 8) hx hb dX9_share_36 (by decide) ?_
  refine lv_icmp_ge (tgt := 57) hx hb dX9_share_38 (by decide) (fun c10 => absurd c10 (by decide)) (fun _ => ?_)
  refine lv_aload_n hx hb dX9_share_41 rfl (lv_at hl 4 rfl) ?_
  have k11 : f7 m = some (.inr (11, [.int c_th, .int c_re, .ref v, .ref im, .ref kp, .ref pa, .ref de, .ref ide, .int c_un, .int c_hi, .ref tx, .int c_tn, .int c_fa, .int c_rf, .ref pt, .int c_ps, .int c_pl, .int c_to, .ref so, .ref mo, .ref wh, .ref pf])) := hup hf7 (hne k6 k3 (by intro q; cases q)) k6
  refine g_get C0 G k11 rfl hiX9 2 (by decide) mf_X9_9 rfl dX9_share_42 ?_
  refine lv_iload_n hx hb dX9_share_45 rfl (lv_at hl 1 rfl) ?_
  refine lv_iload hx hb dX9_share_46 (lv_at hl 0 rfl) ?_
  refine lv_iadd hx hb dX9_share_48 ?_
  refine lv_topv (v := 843) (by decide) ?_
  refine lv_iconst (v := 0) hx hb dX9_share_49 (by decide) ?_
  refine g_iast C0 G k8 0 rfl (by unfold vp_in; decide) dX9_share_50 (fun H locs f12 hf12 G => ?_)
  have k13 : f12 v = some (.inl (cy 0, 6441, .inl (upd (upd (upd g 841 0) 842 0) 843 0))) := hus hf12
  refine lv_iinc (v := 3) (lv' := [(4, .int 3), (3, .int 841), (2, .int (g 7)), (1, .int (g 6)), (0, .ref m)]) hx hb dX9_share_51 hl (k := 0) rfl (by exact (by decide)) (by decide) rfl (fun ls hl => ?_)
  refine lv_goto (tgt := 34) hx hb dX9_share_54 (by decide) ?_
  refine lv_iload hx hb dX9_share_34 (lv_at hl 0 rfl) ?_
  refine lv_bipush (v := 8) hx hb dX9_share_36 (by decide) ?_
  refine lv_icmp_ge (tgt := 57) hx hb dX9_share_38 (by decide) (fun c15 => absurd c15 (by decide)) (fun _ => ?_)
  refine lv_aload_n hx hb dX9_share_41 rfl (lv_at hl 4 rfl) ?_
  have k16 : f12 m = some (.inr (11, [.int c_th, .int c_re, .ref v, .ref im, .ref kp, .ref pa, .ref de, .ref ide, .int c_un, .int c_hi, .ref tx, .int c_tn, .int c_fa, .int c_rf, .ref pt, .int c_ps, .int c_pl, .int c_to, .ref so, .ref mo, .ref wh, .ref pf])) := hup hf12 (hne k11 k8 (by intro q; cases q)) k11
  refine g_get C0 G k16 rfl hiX9 2 (by decide) mf_X9_9 rfl dX9_share_42 ?_
  refine lv_iload_n hx hb dX9_share_45 rfl (lv_at hl 1 rfl) ?_
  refine lv_iload hx hb dX9_share_46 (lv_at hl 0 rfl) ?_
  refine lv_iadd hx hb dX9_share_48 ?_
  refine lv_topv (v := 844) (by decide) ?_
  refine lv_iconst (v := 0) hx hb dX9_share_49 (by decide) ?_
  refine g_iast C0 G k13 0 rfl (by unfold vp_in; decide) dX9_share_50 (fun H locs f17 hf17 G => ?_)
  have k18 : f17 v = some (.inl (cy 0, 6441, .inl (upd (upd (upd (upd g 841 0) 842 0) 843 0) 844 0))) := hus hf17
  refine lv_iinc (v := 4) (lv' := [(4, .int 4), (3, .int 841), (2, .int (g 7)), (1, .int (g 6)), (0, .ref m)]) hx hb dX9_share_51 hl (k := 0) rfl (by exact (by decide)) (by decide) rfl (fun ls hl => ?_)
  refine lv_goto (tgt := 34) hx hb dX9_share_54 (by decide) ?_
  refine lv_iload hx hb dX9_share_34 (lv_at hl 0 rfl) ?_
  refine lv_bipush (v := 8) hx hb dX9_share_36 (by decide) ?_
  refine lv_icmp_ge (tgt := 57) hx hb dX9_share_38 (by decide) (fun c20 => absurd c20 (by decide)) (fun _ => ?_)
  refine lv_aload_n hx hb dX9_share_41 rfl (lv_at hl 4 rfl) ?_
  have k21 : f17 m = some (.inr (11, [.int c_th, .int c_re, .ref v, .ref im, .ref kp, .ref pa, .ref de, .ref ide, .int c_un, .int c_hi, .ref tx, .int c_tn, .int c_fa, .int c_rf, .ref pt, .int c_ps, .int c_pl, .int c_to, .ref so, .ref mo, .ref wh, .ref pf])) := hup hf17 (hne k16 k13 (by intro q; cases q)) k16
  refine g_get C0 G k21 rfl hiX9 2 (by decide) mf_X9_9 rfl dX9_share_42 ?_
  refine lv_iload_n hx hb dX9_share_45 rfl (lv_at hl 1 rfl) ?_
  refine lv_iload hx hb dX9_share_46 (lv_at hl 0 rfl) ?_
  refine lv_iadd hx hb dX9_share_48 ?_
  refine lv_topv (v := 845) (by decide) ?_
  refine lv_iconst (v := 0) hx hb dX9_share_49 (by decide) ?_
  refine g_iast C0 G k18 0 rfl (by unfold vp_in; decide) dX9_share_50 (fun H locs f22 hf22 G => ?_)
  have k23 : f22 v = some (.inl (cy 0, 6441, .inl (upd (upd (upd (upd (upd g 841 0) 842 0) 843 0) 844 0) 845 0))) := hus hf22
  refine lv_iinc (v := 5) (lv' := [(4, .int 5), (3, .int 841), (2, .int (g 7)), (1, .int (g 6)), (0, .ref m)]) hx hb dX9_share_51 hl (k := 0) rfl (by exact (by decide)) (by decide) rfl (fun ls hl => ?_)
  refine lv_goto (tgt := 34) hx hb dX9_share_54 (by decide) ?_
  refine lv_iload hx hb dX9_share_34 (lv_at hl 0 rfl) ?_
  refine lv_bipush (v := 8) hx hb dX9_share_36 (by decide) ?_
  refine lv_icmp_ge (tgt := 57) hx hb dX9_share_38 (by decide) (fun c25 => absurd c25 (by decide)) (fun _ => ?_)
  refine lv_aload_n hx hb dX9_share_41 rfl (lv_at hl 4 rfl) ?_
  have k26 : f22 m = some (.inr (11, [.int c_th, .int c_re, .ref v, .ref im, .ref kp, .ref pa, .ref de, .ref ide, .int c_un, .int c_hi, .ref tx, .int c_tn, .int c_fa, .int c_rf, .ref pt, .int c_ps, .int c_pl, .int c_to, .ref so, .ref mo, .ref wh, .ref pf])) := hup hf22 (hne k21 k18 (by intro q; cases q)) k21
  refine g_get C0 G k26 rfl hiX9 2 (by decide) mf_X9_9 rfl dX9_share_42 ?_
  refine lv_iload_n hx hb dX9_share_45 rfl (lv_at hl 1 rfl) ?_
  refine lv_iload hx hb dX9_share_46 (lv_at hl 0 rfl) ?_
  refine lv_iadd hx hb dX9_share_48 ?_
  refine lv_topv (v := 846) (by decide) ?_
  refine lv_iconst (v := 0) hx hb dX9_share_49 (by decide) ?_
  refine g_iast C0 G k23 0 rfl (by unfold vp_in; decide) dX9_share_50 (fun H locs f27 hf27 G => ?_)
  have k28 : f27 v = some (.inl (cy 0, 6441, .inl (upd (upd (upd (upd (upd (upd g 841 0) 842 0) 843 0) 844 0) 845 0) 846 0))) := hus hf27
  refine lv_iinc (v := 6) (lv' := [(4, .int 6), (3, .int 841), (2, .int (g 7)), (1, .int (g 6)), (0, .ref m)]) hx hb dX9_share_51 hl (k := 0) rfl (by exact (by decide)) (by decide) rfl (fun ls hl => ?_)
  refine lv_goto (tgt := 34) hx hb dX9_share_54 (by decide) ?_
  refine lv_iload hx hb dX9_share_34 (lv_at hl 0 rfl) ?_
  refine lv_bipush (v := 8) hx hb dX9_share_36 (by decide) ?_
  refine lv_icmp_ge (tgt := 57) hx hb dX9_share_38 (by decide) (fun c30 => absurd c30 (by decide)) (fun _ => ?_)
  refine lv_aload_n hx hb dX9_share_41 rfl (lv_at hl 4 rfl) ?_
  have k31 : f27 m = some (.inr (11, [.int c_th, .int c_re, .ref v, .ref im, .ref kp, .ref pa, .ref de, .ref ide, .int c_un, .int c_hi, .ref tx, .int c_tn, .int c_fa, .int c_rf, .ref pt, .int c_ps, .int c_pl, .int c_to, .ref so, .ref mo, .ref wh, .ref pf])) := hup hf27 (hne k26 k23 (by intro q; cases q)) k26
  refine g_get C0 G k31 rfl hiX9 2 (by decide) mf_X9_9 rfl dX9_share_42 ?_
  refine lv_iload_n hx hb dX9_share_45 rfl (lv_at hl 1 rfl) ?_
  refine lv_iload hx hb dX9_share_46 (lv_at hl 0 rfl) ?_
  refine lv_iadd hx hb dX9_share_48 ?_
  refine lv_topv (v := 847) (by decide) ?_
  refine lv_iconst (v := 0) hx hb dX9_share_49 (by decide) ?_
  refine g_iast C0 G k28 0 rfl (by unfold vp_in; decide) dX9_share_50 (fun H locs f32 hf32 G => ?_)
  have k33 : f32 v = some (.inl (cy 0, 6441, .inl (upd (upd (upd (upd (upd (upd (upd g 841 0) 842 0) 843 0) 844 0) 845 0) 846 0) 847 0))) := hus hf32
  refine lv_iinc (v := 7) (lv' := [(4, .int 7), (3, .int 841), (2, .int (g 7)), (1, .int (g 6)), (0, .ref m)]) hx hb dX9_share_51 hl (k := 0) rfl (by exact (by decide)) (by decide) rfl (fun ls hl => ?_)
  refine lv_goto (tgt := 34) hx hb dX9_share_54 (by decide) ?_
  refine lv_iload hx hb dX9_share_34 (lv_at hl 0 rfl) ?_
  refine lv_bipush (v := 8) hx hb dX9_share_36 (by decide) ?_
  refine lv_icmp_ge (tgt := 57) hx hb dX9_share_38 (by decide) (fun c35 => absurd c35 (by decide)) (fun _ => ?_)
  refine lv_aload_n hx hb dX9_share_41 rfl (lv_at hl 4 rfl) ?_
  have k36 : f32 m = some (.inr (11, [.int c_th, .int c_re, .ref v, .ref im, .ref kp, .ref pa, .ref de, .ref ide, .int c_un, .int c_hi, .ref tx, .int c_tn, .int c_fa, .int c_rf, .ref pt, .int c_ps, .int c_pl, .int c_to, .ref so, .ref mo, .ref wh, .ref pf])) := hup hf32 (hne k31 k28 (by intro q; cases q)) k31
  refine g_get C0 G k36 rfl hiX9 2 (by decide) mf_X9_9 rfl dX9_share_42 ?_
  refine lv_iload_n hx hb dX9_share_45 rfl (lv_at hl 1 rfl) ?_
  refine lv_iload hx hb dX9_share_46 (lv_at hl 0 rfl) ?_
  refine lv_iadd hx hb dX9_share_48 ?_
  refine lv_topv (v := 848) (by decide) ?_
  refine lv_iconst (v := 0) hx hb dX9_share_49 (by decide) ?_
  refine g_iast C0 G k33 0 rfl (by unfold vp_in; decide) dX9_share_50 (fun H locs f37 hf37 G => ?_)
  have k38 : f37 v = some (.inl (cy 0, 6441, .inl (upd (upd (upd (upd (upd (upd (upd (upd g 841 0) 842 0) 843 0) 844 0) 845 0) 846 0) 847 0) 848 0))) := hus hf37
  refine lv_iinc (v := 8) (lv' := [(4, .int 8), (3, .int 841), (2, .int (g 7)), (1, .int (g 6)), (0, .ref m)]) hx hb dX9_share_51 hl (k := 0) rfl (by exact (by decide)) (by decide) rfl (fun ls hl => ?_)
  refine lv_goto (tgt := 34) hx hb dX9_share_54 (by decide) ?_
  refine lv_iload hx hb dX9_share_34 (lv_at hl 0 rfl) ?_
  refine lv_bipush (v := 8) hx hb dX9_share_36 (by decide) ?_
  refine lv_icmp_ge (tgt := 57) hx hb dX9_share_38 (by decide) (fun _ => ?_) (fun c40 => absurd (by decide) c40)
  refine lv_aload_n hx hb dX9_share_57 rfl (lv_at hl 4 rfl) ?_
  have k41 : f37 m = some (.inr (11, [.int c_th, .int c_re, .ref v, .ref im, .ref kp, .ref pa, .ref de, .ref ide, .int c_un, .int c_hi, .ref tx, .int c_tn, .int c_fa, .int c_rf, .ref pt, .int c_ps, .int c_pl, .int c_to, .ref so, .ref mo, .ref wh, .ref pf])) := hup hf37 (hne k36 k33 (by intro q; cases q)) k36
  refine g_get C0 G k41 rfl hiX9 2 (by decide) mf_X9_9 rfl dX9_share_58 ?_
  refine lv_iload_n hx hb dX9_share_61 rfl (lv_at hl 1 rfl) ?_
  refine lv_iconst (v := 2) hx hb dX9_share_62 (by decide) ?_
  refine lv_iadd hx hb dX9_share_63 ?_
  refine lv_topv (v := 843) (by decide) ?_
  refine lv_iload_n hx hb dX9_share_64 rfl (lv_at hl 3 rfl) ?_
  refine lv_iload_n hx hb dX9_share_65 rfl (lv_at hl 2 rfl) ?_
  refine lv_icmp_ge (tgt := 73) hx hb dX9_share_66 (by decide) (fun c42 => ?_) (fun c42 => ?_)
  · refine lv_iload_n hx hb dX9_share_73 rfl (lv_at hl 2 rfl) ?_
    refine g_iast C0 G k38 0 rfl (by unfold vp_in; decide) dX9_share_74 (fun H locs f43 hf43 G => ?_)
    have k44 : f43 v = some (.inl (cy 0, 6441, .inl (upd (upd (upd (upd (upd (upd (upd (upd (upd g 841 0) 842 0) 843 0) 844 0) 845 0) 846 0) 847 0) 848 0) 843 (g 7)))) := hus hf43
    refine lv_aload_n hx hb dX9_share_75 rfl (lv_at hl 4 rfl) ?_
    have k45 : f43 m = some (.inr (11, [.int c_th, .int c_re, .ref v, .ref im, .ref kp, .ref pa, .ref de, .ref ide, .int c_un, .int c_hi, .ref tx, .int c_tn, .int c_fa, .int c_rf, .ref pt, .int c_ps, .int c_pl, .int c_to, .ref so, .ref mo, .ref wh, .ref pf])) := hup hf43 (hne k41 k38 (by intro q; cases q)) k41
    refine g_get C0 G k45 rfl hiX9 2 (by decide) mf_X9_9 rfl dX9_share_76 ?_
    refine lv_iload_n hx hb dX9_share_79 rfl (lv_at hl 1 rfl) ?_
    refine lv_iconst (v := 3) hx hb dX9_share_80 (by decide) ?_
    refine lv_iadd hx hb dX9_share_81 ?_
    refine lv_topv (v := 844) (by decide) ?_
    refine lv_iload_n hx hb dX9_share_82 rfl (lv_at hl 3 rfl) ?_
    refine lv_iload_n hx hb dX9_share_83 rfl (lv_at hl 2 rfl) ?_
    refine lv_icmp_ge (tgt := 91) hx hb dX9_share_84 (by decide) (fun c46 => ?_) (fun c46 => ?_)
    · refine lv_iload_n hx hb dX9_share_91 rfl (lv_at hl 3 rfl) ?_
      refine g_iast C0 G k44 0 rfl (by unfold vp_in; decide) dX9_share_92 (fun H locs f47 hf47 G => ?_)
      have k48 : f47 v = some (.inl (cy 0, 6441, .inl (upd (upd (upd (upd (upd (upd (upd (upd (upd (upd g 841 0) 842 0) 843 0) 844 0) 845 0) 846 0) 847 0) 848 0) 843 (g 7)) 844 (g 6)))) := hus hf47
      refine lv_aload_n hx hb dX9_share_93 rfl (lv_at hl 4 rfl) ?_
      have k49 : f47 m = some (.inr (11, [.int c_th, .int c_re, .ref v, .ref im, .ref kp, .ref pa, .ref de, .ref ide, .int c_un, .int c_hi, .ref tx, .int c_tn, .int c_fa, .int c_rf, .ref pt, .int c_ps, .int c_pl, .int c_to, .ref so, .ref mo, .ref wh, .ref pf])) := hup hf47 (hne k45 k44 (by intro q; cases q)) k45
      refine g_get C0 G k49 rfl hiX9 2 (by decide) mf_X9_9 rfl dX9_share_94 ?_
      refine lv_iload_n hx hb dX9_share_97 rfl (lv_at hl 1 rfl) ?_
      refine lv_bipush (v := 7) hx hb dX9_share_98 (by decide) ?_
      refine lv_iadd hx hb dX9_share_100 ?_
      refine lv_topv (v := 848) (by decide) ?_
      refine lv_iconst (v := 1) hx hb dX9_share_101 (by decide) ?_
      refine g_iast C0 G k48 0 rfl (by unfold vp_in; decide) dX9_share_102 (fun H locs f50 hf50 G => ?_)
      have k51 : f50 v = some (.inl (cy 0, 6441, .inl (upd (upd (upd (upd (upd (upd (upd (upd (upd (upd (upd g 841 0) 842 0) 843 0) 844 0) 845 0) 846 0) 847 0) 848 0) 843 (g 7)) 844 (g 6)) 848 1))) := hus hf50
      refine lv_aload_n hx hb dX9_share_103 rfl (lv_at hl 4 rfl) ?_
      have k52 : f50 m = some (.inr (11, [.int c_th, .int c_re, .ref v, .ref im, .ref kp, .ref pa, .ref de, .ref ide, .int c_un, .int c_hi, .ref tx, .int c_tn, .int c_fa, .int c_rf, .ref pt, .int c_ps, .int c_pl, .int c_to, .ref so, .ref mo, .ref wh, .ref pf])) := hup hf50 (hne k49 k48 (by intro q; cases q)) k49
      refine g_get C0 G k52 rfl hiX9 2 (by decide) mf_X9_9 rfl dX9_share_104 ?_
      refine lv_bipush (v := 22) hx hb dX9_share_107 (by decide) ?_
      refine lv_dup2_11 hx hb dX9_share_109 rfl rfl ?_
      refine g_iald C0 G k51 0 rfl (by unfold vp_in; decide) dX9_share_110 ?_
      refine lv_topv (v := 0) (by first | exact h22 | simp [upd, h22]) ?_
      refine lv_iconst (v := 1) hx hb dX9_share_111 (by decide) ?_
      refine lv_iadd hx hb dX9_share_112 ?_
      refine lv_topv (v := 1) (by decide) ?_
      refine g_iast C0 G k51 0 rfl (by unfold vp_in; decide) dX9_share_113 (fun H locs f53 hf53 G => ?_)
      have k54 : f53 v = some (.inl (cy 0, 6441, .inl (upd (upd (upd (upd (upd (upd (upd (upd (upd (upd (upd (upd g 841 0) 842 0) 843 0) 844 0) 845 0) 846 0) 847 0) 848 0) 843 (g 7)) 844 (g 6)) 848 1) 22 1))) := hus hf53
      exact g_vret C0 G hr dX9_share_114 (Nat.le_of_ble_eq_true rfl) (Nat.le_of_ble_eq_true rfl) (by exact fun a9 e9 h7 h8 => hup hf53 (fun q => h7 (by rw [q]; simp)) (hup hf50 (fun q => h7 (by rw [q]; simp)) (hup hf47 (fun q => h7 (by rw [q]; simp)) (hup hf43 (fun q => h7 (by rw [q]; simp)) (hup hf37 (fun q => h7 (by rw [q]; simp)) (hup hf32 (fun q => h7 (by rw [q]; simp)) (hup hf27 (fun q => h7 (by rw [q]; simp)) (hup hf22 (fun q => h7 (by rw [q]; simp)) (hup hf17 (fun q => h7 (by rw [q]; simp)) (hup hf12 (fun q => h7 (by rw [q]; simp)) (hup hf7 (fun q => h7 (by rw [q]; simp)) (hup hf2 (fun q => h7 (by rw [q]; simp)) (h8)))))))))))))
    · refine lv_iload_n hx hb dX9_share_87 rfl (lv_at hl 2 rfl) ?_
      refine lv_goto (tgt := 92) hx hb dX9_share_88 (by decide) ?_
      refine g_iast C0 G k44 0 rfl (by unfold vp_in; decide) dX9_share_92 (fun H locs f55 hf55 G => ?_)
      have k56 : f55 v = some (.inl (cy 0, 6441, .inl (upd (upd (upd (upd (upd (upd (upd (upd (upd (upd g 841 0) 842 0) 843 0) 844 0) 845 0) 846 0) 847 0) 848 0) 843 (g 7)) 844 (g 7)))) := hus hf55
      refine lv_aload_n hx hb dX9_share_93 rfl (lv_at hl 4 rfl) ?_
      have k57 : f55 m = some (.inr (11, [.int c_th, .int c_re, .ref v, .ref im, .ref kp, .ref pa, .ref de, .ref ide, .int c_un, .int c_hi, .ref tx, .int c_tn, .int c_fa, .int c_rf, .ref pt, .int c_ps, .int c_pl, .int c_to, .ref so, .ref mo, .ref wh, .ref pf])) := hup hf55 (hne k45 k44 (by intro q; cases q)) k45
      refine g_get C0 G k57 rfl hiX9 2 (by decide) mf_X9_9 rfl dX9_share_94 ?_
      refine lv_iload_n hx hb dX9_share_97 rfl (lv_at hl 1 rfl) ?_
      refine lv_bipush (v := 7) hx hb dX9_share_98 (by decide) ?_
      refine lv_iadd hx hb dX9_share_100 ?_
      refine lv_topv (v := 848) (by decide) ?_
      refine lv_iconst (v := 1) hx hb dX9_share_101 (by decide) ?_
      refine g_iast C0 G k56 0 rfl (by unfold vp_in; decide) dX9_share_102 (fun H locs f58 hf58 G => ?_)
      have k59 : f58 v = some (.inl (cy 0, 6441, .inl (upd (upd (upd (upd (upd (upd (upd (upd (upd (upd (upd g 841 0) 842 0) 843 0) 844 0) 845 0) 846 0) 847 0) 848 0) 843 (g 7)) 844 (g 7)) 848 1))) := hus hf58
      refine lv_aload_n hx hb dX9_share_103 rfl (lv_at hl 4 rfl) ?_
      have k60 : f58 m = some (.inr (11, [.int c_th, .int c_re, .ref v, .ref im, .ref kp, .ref pa, .ref de, .ref ide, .int c_un, .int c_hi, .ref tx, .int c_tn, .int c_fa, .int c_rf, .ref pt, .int c_ps, .int c_pl, .int c_to, .ref so, .ref mo, .ref wh, .ref pf])) := hup hf58 (hne k57 k56 (by intro q; cases q)) k57
      refine g_get C0 G k60 rfl hiX9 2 (by decide) mf_X9_9 rfl dX9_share_104 ?_
      refine lv_bipush (v := 22) hx hb dX9_share_107 (by decide) ?_
      refine lv_dup2_11 hx hb dX9_share_109 rfl rfl ?_
      refine g_iald C0 G k59 0 rfl (by unfold vp_in; decide) dX9_share_110 ?_
      refine lv_topv (v := 0) (by first | exact h22 | simp [upd, h22]) ?_
      refine lv_iconst (v := 1) hx hb dX9_share_111 (by decide) ?_
      refine lv_iadd hx hb dX9_share_112 ?_
      refine lv_topv (v := 1) (by decide) ?_
      refine g_iast C0 G k59 0 rfl (by unfold vp_in; decide) dX9_share_113 (fun H locs f61 hf61 G => ?_)
      have k62 : f61 v = some (.inl (cy 0, 6441, .inl (upd (upd (upd (upd (upd (upd (upd (upd (upd (upd (upd (upd g 841 0) 842 0) 843 0) 844 0) 845 0) 846 0) 847 0) 848 0) 843 (g 7)) 844 (g 7)) 848 1) 22 1))) := hus hf61
      exact g_vret C0 G hr dX9_share_114 (Nat.le_of_ble_eq_true rfl) (Nat.le_of_ble_eq_true rfl) (by exact fun a9 e9 h7 h8 => hup hf61 (fun q => h7 (by rw [q]; simp)) (hup hf58 (fun q => h7 (by rw [q]; simp)) (hup hf55 (fun q => h7 (by rw [q]; simp)) (hup hf43 (fun q => h7 (by rw [q]; simp)) (hup hf37 (fun q => h7 (by rw [q]; simp)) (hup hf32 (fun q => h7 (by rw [q]; simp)) (hup hf27 (fun q => h7 (by rw [q]; simp)) (hup hf22 (fun q => h7 (by rw [q]; simp)) (hup hf17 (fun q => h7 (by rw [q]; simp)) (hup hf12 (fun q => h7 (by rw [q]; simp)) (hup hf7 (fun q => h7 (by rw [q]; simp)) (hup hf2 (fun q => h7 (by rw [q]; simp)) (h8)))))))))))))
  · refine lv_iload_n hx hb dX9_share_69 rfl (lv_at hl 3 rfl) ?_
    refine lv_goto (tgt := 74) hx hb dX9_share_70 (by decide) ?_
    refine g_iast C0 G k38 0 rfl (by unfold vp_in; decide) dX9_share_74 (fun H locs f63 hf63 G => ?_)
    have k64 : f63 v = some (.inl (cy 0, 6441, .inl (upd (upd (upd (upd (upd (upd (upd (upd (upd g 841 0) 842 0) 843 0) 844 0) 845 0) 846 0) 847 0) 848 0) 843 (g 6)))) := hus hf63
    refine lv_aload_n hx hb dX9_share_75 rfl (lv_at hl 4 rfl) ?_
    have k65 : f63 m = some (.inr (11, [.int c_th, .int c_re, .ref v, .ref im, .ref kp, .ref pa, .ref de, .ref ide, .int c_un, .int c_hi, .ref tx, .int c_tn, .int c_fa, .int c_rf, .ref pt, .int c_ps, .int c_pl, .int c_to, .ref so, .ref mo, .ref wh, .ref pf])) := hup hf63 (hne k41 k38 (by intro q; cases q)) k41
    refine g_get C0 G k65 rfl hiX9 2 (by decide) mf_X9_9 rfl dX9_share_76 ?_
    refine lv_iload_n hx hb dX9_share_79 rfl (lv_at hl 1 rfl) ?_
    refine lv_iconst (v := 3) hx hb dX9_share_80 (by decide) ?_
    refine lv_iadd hx hb dX9_share_81 ?_
    refine lv_topv (v := 844) (by decide) ?_
    refine lv_iload_n hx hb dX9_share_82 rfl (lv_at hl 3 rfl) ?_
    refine lv_iload_n hx hb dX9_share_83 rfl (lv_at hl 2 rfl) ?_
    refine lv_icmp_ge (tgt := 91) hx hb dX9_share_84 (by decide) (fun c66 => ?_) (fun c66 => ?_)
    · refine lv_iload_n hx hb dX9_share_91 rfl (lv_at hl 3 rfl) ?_
      refine g_iast C0 G k64 0 rfl (by unfold vp_in; decide) dX9_share_92 (fun H locs f67 hf67 G => ?_)
      have k68 : f67 v = some (.inl (cy 0, 6441, .inl (upd (upd (upd (upd (upd (upd (upd (upd (upd (upd g 841 0) 842 0) 843 0) 844 0) 845 0) 846 0) 847 0) 848 0) 843 (g 6)) 844 (g 6)))) := hus hf67
      refine lv_aload_n hx hb dX9_share_93 rfl (lv_at hl 4 rfl) ?_
      have k69 : f67 m = some (.inr (11, [.int c_th, .int c_re, .ref v, .ref im, .ref kp, .ref pa, .ref de, .ref ide, .int c_un, .int c_hi, .ref tx, .int c_tn, .int c_fa, .int c_rf, .ref pt, .int c_ps, .int c_pl, .int c_to, .ref so, .ref mo, .ref wh, .ref pf])) := hup hf67 (hne k65 k64 (by intro q; cases q)) k65
      refine g_get C0 G k69 rfl hiX9 2 (by decide) mf_X9_9 rfl dX9_share_94 ?_
      refine lv_iload_n hx hb dX9_share_97 rfl (lv_at hl 1 rfl) ?_
      refine lv_bipush (v := 7) hx hb dX9_share_98 (by decide) ?_
      refine lv_iadd hx hb dX9_share_100 ?_
      refine lv_topv (v := 848) (by decide) ?_
      refine lv_iconst (v := 1) hx hb dX9_share_101 (by decide) ?_
      refine g_iast C0 G k68 0 rfl (by unfold vp_in; decide) dX9_share_102 (fun H locs f70 hf70 G => ?_)
      have k71 : f70 v = some (.inl (cy 0, 6441, .inl (upd (upd (upd (upd (upd (upd (upd (upd (upd (upd (upd g 841 0) 842 0) 843 0) 844 0) 845 0) 846 0) 847 0) 848 0) 843 (g 6)) 844 (g 6)) 848 1))) := hus hf70
      refine lv_aload_n hx hb dX9_share_103 rfl (lv_at hl 4 rfl) ?_
      have k72 : f70 m = some (.inr (11, [.int c_th, .int c_re, .ref v, .ref im, .ref kp, .ref pa, .ref de, .ref ide, .int c_un, .int c_hi, .ref tx, .int c_tn, .int c_fa, .int c_rf, .ref pt, .int c_ps, .int c_pl, .int c_to, .ref so, .ref mo, .ref wh, .ref pf])) := hup hf70 (hne k69 k68 (by intro q; cases q)) k69
      refine g_get C0 G k72 rfl hiX9 2 (by decide) mf_X9_9 rfl dX9_share_104 ?_
      refine lv_bipush (v := 22) hx hb dX9_share_107 (by decide) ?_
      refine lv_dup2_11 hx hb dX9_share_109 rfl rfl ?_
      refine g_iald C0 G k71 0 rfl (by unfold vp_in; decide) dX9_share_110 ?_
      refine lv_topv (v := 0) (by first | exact h22 | simp [upd, h22]) ?_
      refine lv_iconst (v := 1) hx hb dX9_share_111 (by decide) ?_
      refine lv_iadd hx hb dX9_share_112 ?_
      refine lv_topv (v := 1) (by decide) ?_
      refine g_iast C0 G k71 0 rfl (by unfold vp_in; decide) dX9_share_113 (fun H locs f73 hf73 G => ?_)
      have k74 : f73 v = some (.inl (cy 0, 6441, .inl (upd (upd (upd (upd (upd (upd (upd (upd (upd (upd (upd (upd g 841 0) 842 0) 843 0) 844 0) 845 0) 846 0) 847 0) 848 0) 843 (g 6)) 844 (g 6)) 848 1) 22 1))) := hus hf73
      exact g_vret C0 G hr dX9_share_114 (Nat.le_of_ble_eq_true rfl) (Nat.le_of_ble_eq_true rfl) (by exact fun a9 e9 h7 h8 => hup hf73 (fun q => h7 (by rw [q]; simp)) (hup hf70 (fun q => h7 (by rw [q]; simp)) (hup hf67 (fun q => h7 (by rw [q]; simp)) (hup hf63 (fun q => h7 (by rw [q]; simp)) (hup hf37 (fun q => h7 (by rw [q]; simp)) (hup hf32 (fun q => h7 (by rw [q]; simp)) (hup hf27 (fun q => h7 (by rw [q]; simp)) (hup hf22 (fun q => h7 (by rw [q]; simp)) (hup hf17 (fun q => h7 (by rw [q]; simp)) (hup hf12 (fun q => h7 (by rw [q]; simp)) (hup hf7 (fun q => h7 (by rw [q]; simp)) (hup hf2 (fun q => h7 (by rw [q]; simp)) (h8)))))))))))))
    · refine lv_iload_n hx hb dX9_share_87 rfl (lv_at hl 2 rfl) ?_
      refine lv_goto (tgt := 92) hx hb dX9_share_88 (by decide) ?_
      refine g_iast C0 G k64 0 rfl (by unfold vp_in; decide) dX9_share_92 (fun H locs f75 hf75 G => ?_)
      have k76 : f75 v = some (.inl (cy 0, 6441, .inl (upd (upd (upd (upd (upd (upd (upd (upd (upd (upd g 841 0) 842 0) 843 0) 844 0) 845 0) 846 0) 847 0) 848 0) 843 (g 6)) 844 (g 7)))) := hus hf75
      refine lv_aload_n hx hb dX9_share_93 rfl (lv_at hl 4 rfl) ?_
      have k77 : f75 m = some (.inr (11, [.int c_th, .int c_re, .ref v, .ref im, .ref kp, .ref pa, .ref de, .ref ide, .int c_un, .int c_hi, .ref tx, .int c_tn, .int c_fa, .int c_rf, .ref pt, .int c_ps, .int c_pl, .int c_to, .ref so, .ref mo, .ref wh, .ref pf])) := hup hf75 (hne k65 k64 (by intro q; cases q)) k65
      refine g_get C0 G k77 rfl hiX9 2 (by decide) mf_X9_9 rfl dX9_share_94 ?_
      refine lv_iload_n hx hb dX9_share_97 rfl (lv_at hl 1 rfl) ?_
      refine lv_bipush (v := 7) hx hb dX9_share_98 (by decide) ?_
      refine lv_iadd hx hb dX9_share_100 ?_
      refine lv_topv (v := 848) (by decide) ?_
      refine lv_iconst (v := 1) hx hb dX9_share_101 (by decide) ?_
      refine g_iast C0 G k76 0 rfl (by unfold vp_in; decide) dX9_share_102 (fun H locs f78 hf78 G => ?_)
      have k79 : f78 v = some (.inl (cy 0, 6441, .inl (upd (upd (upd (upd (upd (upd (upd (upd (upd (upd (upd g 841 0) 842 0) 843 0) 844 0) 845 0) 846 0) 847 0) 848 0) 843 (g 6)) 844 (g 7)) 848 1))) := hus hf78
      refine lv_aload_n hx hb dX9_share_103 rfl (lv_at hl 4 rfl) ?_
      have k80 : f78 m = some (.inr (11, [.int c_th, .int c_re, .ref v, .ref im, .ref kp, .ref pa, .ref de, .ref ide, .int c_un, .int c_hi, .ref tx, .int c_tn, .int c_fa, .int c_rf, .ref pt, .int c_ps, .int c_pl, .int c_to, .ref so, .ref mo, .ref wh, .ref pf])) := hup hf78 (hne k77 k76 (by intro q; cases q)) k77
      refine g_get C0 G k80 rfl hiX9 2 (by decide) mf_X9_9 rfl dX9_share_104 ?_
      refine lv_bipush (v := 22) hx hb dX9_share_107 (by decide) ?_
      refine lv_dup2_11 hx hb dX9_share_109 rfl rfl ?_
      refine g_iald C0 G k79 0 rfl (by unfold vp_in; decide) dX9_share_110 ?_
      refine lv_topv (v := 0) (by first | exact h22 | simp [upd, h22]) ?_
      refine lv_iconst (v := 1) hx hb dX9_share_111 (by decide) ?_
      refine lv_iadd hx hb dX9_share_112 ?_
      refine lv_topv (v := 1) (by decide) ?_
      refine g_iast C0 G k79 0 rfl (by unfold vp_in; decide) dX9_share_113 (fun H locs f81 hf81 G => ?_)
      have k82 : f81 v = some (.inl (cy 0, 6441, .inl (upd (upd (upd (upd (upd (upd (upd (upd (upd (upd (upd (upd g 841 0) 842 0) 843 0) 844 0) 845 0) 846 0) 847 0) 848 0) 843 (g 6)) 844 (g 7)) 848 1) 22 1))) := hus hf81
      exact g_vret C0 G hr dX9_share_114 (Nat.le_of_ble_eq_true rfl) (Nat.le_of_ble_eq_true rfl) (by exact fun a9 e9 h7 h8 => hup hf81 (fun q => h7 (by rw [q]; simp)) (hup hf78 (fun q => h7 (by rw [q]; simp)) (hup hf75 (fun q => h7 (by rw [q]; simp)) (hup hf63 (fun q => h7 (by rw [q]; simp)) (hup hf37 (fun q => h7 (by rw [q]; simp)) (hup hf32 (fun q => h7 (by rw [q]; simp)) (hup hf27 (fun q => h7 (by rw [q]; simp)) (hup hf22 (fun q => h7 (by rw [q]; simp)) (hup hf17 (fun q => h7 (by rw [q]; simp)) (hup hf12 (fun q => h7 (by rw [q]; simp)) (hup hf7 (fun q => h7 (by rw [q]; simp)) (hup hf2 (fun q => h7 (by rw [q]; simp)) (h8)))))))))))))
set_option maxRecDepth 100000 in
theorem k_X9_opens {l : Launch} (hfl : l.stackTraces = false) {D : va_G} {cy : Nat → ClassId} {f : Hf} {sz : Nat} {m v im kp pa de ide tx pt so mo wh pf : Nat} {c_th c_re c_un c_hi c_tn c_fa c_rf c_ps c_pl c_to : Int32} {g : Nat → Int32} (h_m : f m = some (.inr (11, [.int c_th, .int c_re, .ref v, .ref im, .ref kp, .ref pa, .ref de, .ref ide, .int c_un, .int c_hi, .ref tx, .int c_tn, .int c_fa, .int c_rf, .ref pt, .int c_ps, .int c_pl, .int c_to, .ref so, .ref mo, .ref wh, .ref pf]))) (h_v : f v = some (.inl (cy 0, 6441, .inl g))) (h22 : g 22 = 0) : hMet l yX9_opens cX9_opens 3 none { frames := 1, cells := 0, slots := 0, locals := 24 } D (hTy cy) f sz [.ref m, .int 0] (hQv (fun u => hFrL f u [v]) D f sz) hNo := by
  refine h_enter (by decide) hfl (Nat.le_of_ble_eq_true rfl) ?_
  intro p9 e9 s9 m9 b9 t9 c9 hsz C0 hr hnm G ls hl
  have hx := C0.1.1
  have hb := C0.1.2.1
  have hl : lv_has ls 3 [(0, .ref m), (1, .int 0)] := hl
  refine lv_aload_n hx hb dX9_opens_0 rfl (lv_at hl 0 rfl) ?_
  refine g_get C0 G h_m rfl hiX9 2 (by decide) mf_X9_9 rfl dX9_opens_1 ?_
  refine lv_iconst (v := 4) hx hb dX9_opens_4 (by decide) ?_
  refine lv_iload_n hx hb dX9_opens_5 rfl (lv_at hl 1 rfl) ?_
  refine g_iast C0 G h_v 0 rfl (by unfold vp_in; decide) dX9_opens_6 (fun H locs f1 hf1 G => ?_)
  have k2 : f1 v = some (.inl (cy 0, 6441, .inl (upd g 4 0))) := hus hf1
  refine lv_aload_n hx hb dX9_opens_7 rfl (lv_at hl 0 rfl) ?_
  have k3 : f1 m = some (.inr (11, [.int c_th, .int c_re, .ref v, .ref im, .ref kp, .ref pa, .ref de, .ref ide, .int c_un, .int c_hi, .ref tx, .int c_tn, .int c_fa, .int c_rf, .ref pt, .int c_ps, .int c_pl, .int c_to, .ref so, .ref mo, .ref wh, .ref pf])) := hup hf1 (hne h_m h_v (by intro q; cases q)) h_m
  refine g_get C0 G k3 rfl hiX9 2 (by decide) mf_X9_9 rfl dX9_opens_8 ?_
  refine lv_bipush (v := 6) hx hb dX9_opens_11 (by decide) ?_
  refine lv_iconst (v := 0) hx hb dX9_opens_13 (by decide) ?_
  refine g_iast C0 G k2 0 rfl (by unfold vp_in; decide) dX9_opens_14 (fun H locs f4 hf4 G => ?_)
  have k5 : f4 v = some (.inl (cy 0, 6441, .inl (upd (upd g 4 0) 6 0))) := hus hf4
  refine lv_aload_n hx hb dX9_opens_15 rfl (lv_at hl 0 rfl) ?_
  have k6 : f4 m = some (.inr (11, [.int c_th, .int c_re, .ref v, .ref im, .ref kp, .ref pa, .ref de, .ref ide, .int c_un, .int c_hi, .ref tx, .int c_tn, .int c_fa, .int c_rf, .ref pt, .int c_ps, .int c_pl, .int c_to, .ref so, .ref mo, .ref wh, .ref pf])) := hup hf4 (hne k3 k2 (by intro q; cases q)) k3
  refine g_get C0 G k6 rfl hiX9 2 (by decide) mf_X9_9 rfl dX9_opens_16 ?_
  refine lv_bipush (v := 7) hx hb dX9_opens_19 (by decide) ?_
  refine lv_iconst (v := 1) hx hb dX9_opens_21 (by decide) ?_
  refine g_iast C0 G k5 0 rfl (by unfold vp_in; decide) dX9_opens_22 (fun H locs f7 hf7 G => ?_)
  have k8 : f7 v = some (.inl (cy 0, 6441, .inl (upd (upd (upd g 4 0) 6 0) 7 1))) := hus hf7
  refine lv_aload_n hx hb dX9_opens_23 rfl (lv_at hl 0 rfl) ?_
  have k9 : f7 m = some (.inr (11, [.int c_th, .int c_re, .ref v, .ref im, .ref kp, .ref pa, .ref de, .ref ide, .int c_un, .int c_hi, .ref tx, .int c_tn, .int c_fa, .int c_rf, .ref pt, .int c_ps, .int c_pl, .int c_to, .ref so, .ref mo, .ref wh, .ref pf])) := hup hf7 (hne k6 k5 (by intro q; cases q)) k6
  refine g_get C0 G k9 rfl hiX9 2 (by decide) mf_X9_9 rfl dX9_opens_24 ?_
  refine lv_bipush (v := 8) hx hb dX9_opens_27 (by decide) ?_
  refine lv_iconst (v := (-1)) hx hb dX9_opens_29 (by decide) ?_
  refine g_iast C0 G k8 0 rfl (by unfold vp_in; decide) dX9_opens_30 (fun H locs f10 hf10 G => ?_)
  have k11 : f10 v = some (.inl (cy 0, 6441, .inl (upd (upd (upd (upd g 4 0) 6 0) 7 1) 8 (-1)))) := hus hf10
  refine lv_aload_n hx hb dX9_opens_31 rfl (lv_at hl 0 rfl) ?_
  have k12 : f10 m = some (.inr (11, [.int c_th, .int c_re, .ref v, .ref im, .ref kp, .ref pa, .ref de, .ref ide, .int c_un, .int c_hi, .ref tx, .int c_tn, .int c_fa, .int c_rf, .ref pt, .int c_ps, .int c_pl, .int c_to, .ref so, .ref mo, .ref wh, .ref pf])) := hup hf10 (hne k9 k8 (by intro q; cases q)) k9
  refine g_get C0 G k12 rfl hiX9 2 (by decide) mf_X9_9 rfl dX9_opens_32 ?_
  refine lv_bipush (v := 9) hx hb dX9_opens_35 (by decide) ?_
  refine lv_iconst (v := (-1)) hx hb dX9_opens_37 (by decide) ?_
  refine g_iast C0 G k11 0 rfl (by unfold vp_in; decide) dX9_opens_38 (fun H locs f13 hf13 G => ?_)
  have k14 : f13 v = some (.inl (cy 0, 6441, .inl (upd (upd (upd (upd (upd g 4 0) 6 0) 7 1) 8 (-1)) 9 (-1)))) := hus hf13
  refine lv_aload_n hx hb dX9_opens_39 rfl (lv_at hl 0 rfl) ?_
  have k15 : f13 m = some (.inr (11, [.int c_th, .int c_re, .ref v, .ref im, .ref kp, .ref pa, .ref de, .ref ide, .int c_un, .int c_hi, .ref tx, .int c_tn, .int c_fa, .int c_rf, .ref pt, .int c_ps, .int c_pl, .int c_to, .ref so, .ref mo, .ref wh, .ref pf])) := hup hf13 (hne k12 k11 (by intro q; cases q)) k12
  refine g_get C0 G k15 rfl hiX9 2 (by decide) mf_X9_9 rfl dX9_opens_40 ?_
  refine lv_bipush (v := 10) hx hb dX9_opens_43 (by decide) ?_
  refine lv_iconst (v := 0) hx hb dX9_opens_45 (by decide) ?_
  refine g_iast C0 G k14 0 rfl (by unfold vp_in; decide) dX9_opens_46 (fun H locs f16 hf16 G => ?_)
  have k17 : f16 v = some (.inl (cy 0, 6441, .inl (upd (upd (upd (upd (upd (upd g 4 0) 6 0) 7 1) 8 (-1)) 9 (-1)) 10 0))) := hus hf16
  refine lv_aload_n hx hb dX9_opens_47 rfl (lv_at hl 0 rfl) ?_
  have k18 : f16 m = some (.inr (11, [.int c_th, .int c_re, .ref v, .ref im, .ref kp, .ref pa, .ref de, .ref ide, .int c_un, .int c_hi, .ref tx, .int c_tn, .int c_fa, .int c_rf, .ref pt, .int c_ps, .int c_pl, .int c_to, .ref so, .ref mo, .ref wh, .ref pf])) := hup hf16 (hne k15 k14 (by intro q; cases q)) k15
  refine g_get C0 G k18 rfl hiX9 2 (by decide) mf_X9_9 rfl dX9_opens_48 ?_
  refine lv_bipush (v := 11) hx hb dX9_opens_51 (by decide) ?_
  refine lv_iconst (v := 0) hx hb dX9_opens_53 (by decide) ?_
  refine g_iast C0 G k17 0 rfl (by unfold vp_in; decide) dX9_opens_54 (fun H locs f19 hf19 G => ?_)
  have k20 : f19 v = some (.inl (cy 0, 6441, .inl (upd (upd (upd (upd (upd (upd (upd g 4 0) 6 0) 7 1) 8 (-1)) 9 (-1)) 10 0) 11 0))) := hus hf19
  refine lv_aload_n hx hb dX9_opens_55 rfl (lv_at hl 0 rfl) ?_
  have k21 : f19 m = some (.inr (11, [.int c_th, .int c_re, .ref v, .ref im, .ref kp, .ref pa, .ref de, .ref ide, .int c_un, .int c_hi, .ref tx, .int c_tn, .int c_fa, .int c_rf, .ref pt, .int c_ps, .int c_pl, .int c_to, .ref so, .ref mo, .ref wh, .ref pf])) := hup hf19 (hne k18 k17 (by intro q; cases q)) k18
  refine g_get C0 G k21 rfl hiX9 2 (by decide) mf_X9_9 rfl dX9_opens_56 ?_
  refine lv_bipush (v := 12) hx hb dX9_opens_59 (by decide) ?_
  refine lv_iconst (v := (-1)) hx hb dX9_opens_61 (by decide) ?_
  refine g_iast C0 G k20 0 rfl (by unfold vp_in; decide) dX9_opens_62 (fun H locs f22 hf22 G => ?_)
  have k23 : f22 v = some (.inl (cy 0, 6441, .inl (upd (upd (upd (upd (upd (upd (upd (upd g 4 0) 6 0) 7 1) 8 (-1)) 9 (-1)) 10 0) 11 0) 12 (-1)))) := hus hf22
  refine lv_iload_n hx hb dX9_opens_63 rfl (lv_at hl 1 rfl) ?_
  refine lv_if_eq (tgt := 77) hx hb dX9_opens_64 (by decide) (fun _ => ?_) (fun c24 => absurd (by decide) c24)
  refine lv_aload_n hx hb dX9_opens_77 rfl (lv_at hl 0 rfl) ?_
  have k25 : f22 m = some (.inr (11, [.int c_th, .int c_re, .ref v, .ref im, .ref kp, .ref pa, .ref de, .ref ide, .int c_un, .int c_hi, .ref tx, .int c_tn, .int c_fa, .int c_rf, .ref pt, .int c_ps, .int c_pl, .int c_to, .ref so, .ref mo, .ref wh, .ref pf])) := hup hf22 (hne k21 k20 (by intro q; cases q)) k21
  refine g_get C0 G k25 rfl hiX9 2 (by decide) mf_X9_9 rfl dX9_opens_78 ?_
  refine lv_bipush (v := 13) hx hb dX9_opens_81 (by decide) ?_
  refine lv_aload_n hx hb dX9_opens_83 rfl (lv_at hl 0 rfl) ?_
  refine g_get C0 G k25 rfl hiX9 2 (by decide) mf_X9_9 rfl dX9_opens_84 ?_
  refine lv_iconst (v := 3) hx hb dX9_opens_87 (by decide) ?_
  refine g_iald C0 G k23 0 rfl (by unfold vp_in; decide) dX9_opens_88 ?_
  refine g_iast C0 G k23 0 rfl (by unfold vp_in; decide) dX9_opens_89 (fun H locs f26 hf26 G => ?_)
  have k27 : f26 v = some (.inl (cy 0, 6441, .inl (upd (upd (upd (upd (upd (upd (upd (upd (upd g 4 0) 6 0) 7 1) 8 (-1)) 9 (-1)) 10 0) 11 0) 12 (-1)) 13 ((upd (upd (upd (upd (upd (upd (upd (upd g 4 0) 6 0) 7 1) 8 (-1)) 9 (-1)) 10 0) 11 0) 12 (-1)) 3)))) := hus hf26
  refine lv_aload_n hx hb dX9_opens_90 rfl (lv_at hl 0 rfl) ?_
  have k28 : f26 m = some (.inr (11, [.int c_th, .int c_re, .ref v, .ref im, .ref kp, .ref pa, .ref de, .ref ide, .int c_un, .int c_hi, .ref tx, .int c_tn, .int c_fa, .int c_rf, .ref pt, .int c_ps, .int c_pl, .int c_to, .ref so, .ref mo, .ref wh, .ref pf])) := hup hf26 (hne k25 k23 (by intro q; cases q)) k25
  refine g_get C0 G k28 rfl hiX9 2 (by decide) mf_X9_9 rfl dX9_opens_91 ?_
  refine lv_bipush (v := 18) hx hb dX9_opens_94 (by decide) ?_
  refine lv_iload_n hx hb dX9_opens_96 rfl (lv_at hl 1 rfl) ?_
  refine lv_iadd hx hb dX9_opens_97 ?_
  refine lv_topv (v := 18) (by decide) ?_
  refine lv_aload_n hx hb dX9_opens_98 rfl (lv_at hl 0 rfl) ?_
  refine g_get C0 G k28 rfl hiX9 2 (by decide) mf_X9_9 rfl dX9_opens_99 ?_
  refine lv_bipush (v := 13) hx hb dX9_opens_102 (by decide) ?_
  refine g_iald C0 G k27 0 rfl (by unfold vp_in; decide) dX9_opens_104 ?_
  refine g_iast C0 G k27 0 rfl (by unfold vp_in; decide) dX9_opens_105 (fun H locs f29 hf29 G => ?_)
  have k30 : f29 v = some (.inl (cy 0, 6441, .inl (upd (upd (upd (upd (upd (upd (upd (upd (upd (upd g 4 0) 6 0) 7 1) 8 (-1)) 9 (-1)) 10 0) 11 0) 12 (-1)) 13 ((upd (upd (upd (upd (upd (upd (upd (upd g 4 0) 6 0) 7 1) 8 (-1)) 9 (-1)) 10 0) 11 0) 12 (-1)) 3)) 18 ((upd (upd (upd (upd (upd (upd (upd (upd (upd g 4 0) 6 0) 7 1) 8 (-1)) 9 (-1)) 10 0) 11 0) 12 (-1)) 13 ((upd (upd (upd (upd (upd (upd (upd (upd g 4 0) 6 0) 7 1) 8 (-1)) 9 (-1)) 10 0) 11 0) 12 (-1)) 3)) 13)))) := hus hf29
  refine lv_aload_n hx hb dX9_opens_106 rfl (lv_at hl 0 rfl) ?_
  have k31 : f29 m = some (.inr (11, [.int c_th, .int c_re, .ref v, .ref im, .ref kp, .ref pa, .ref de, .ref ide, .int c_un, .int c_hi, .ref tx, .int c_tn, .int c_fa, .int c_rf, .ref pt, .int c_ps, .int c_pl, .int c_to, .ref so, .ref mo, .ref wh, .ref pf])) := hup hf29 (hne k28 k27 (by intro q; cases q)) k28
  refine g_get C0 G k31 rfl hiX9 2 (by decide) mf_X9_9 rfl dX9_opens_107 ?_
  refine lv_bipush (v := 14) hx hb dX9_opens_110 (by decide) ?_
  refine lv_iload_n hx hb dX9_opens_112 rfl (lv_at hl 1 rfl) ?_
  refine lv_iadd hx hb dX9_opens_113 ?_
  refine lv_topv (v := 14) (by decide) ?_
  refine lv_aload_n hx hb dX9_opens_114 rfl (lv_at hl 0 rfl) ?_
  refine g_get C0 G k31 rfl hiX9 2 (by decide) mf_X9_9 rfl dX9_opens_115 ?_
  refine lv_iconst (v := 1) hx hb dX9_opens_118 (by decide) ?_
  refine g_iald C0 G k30 0 rfl (by unfold vp_in; decide) dX9_opens_119 ?_
  refine lv_iconst (v := 1) hx hb dX9_opens_120 (by decide) ?_
  refine lv_icmp_ne (tgt := 141) hx hb dX9_opens_121 (by decide) (fun c32 => ?_) (fun c32 => ?_)
  · refine lv_iconst (v := 0) hx hb dX9_opens_141 (by decide) ?_
    refine g_iast C0 G k30 0 rfl (by unfold vp_in; decide) dX9_opens_142 (fun H locs f33 hf33 G => ?_)
    have k34 : f33 v = some (.inl (cy 0, 6441, .inl (upd (upd (upd (upd (upd (upd (upd (upd (upd (upd (upd g 4 0) 6 0) 7 1) 8 (-1)) 9 (-1)) 10 0) 11 0) 12 (-1)) 13 ((upd (upd (upd (upd (upd (upd (upd (upd g 4 0) 6 0) 7 1) 8 (-1)) 9 (-1)) 10 0) 11 0) 12 (-1)) 3)) 18 ((upd (upd (upd (upd (upd (upd (upd (upd (upd g 4 0) 6 0) 7 1) 8 (-1)) 9 (-1)) 10 0) 11 0) 12 (-1)) 13 ((upd (upd (upd (upd (upd (upd (upd (upd g 4 0) 6 0) 7 1) 8 (-1)) 9 (-1)) 10 0) 11 0) 12 (-1)) 3)) 13)) 14 0))) := hus hf33
    refine lv_aload_n hx hb dX9_opens_143 rfl (lv_at hl 0 rfl) ?_
    have k35 : f33 m = some (.inr (11, [.int c_th, .int c_re, .ref v, .ref im, .ref kp, .ref pa, .ref de, .ref ide, .int c_un, .int c_hi, .ref tx, .int c_tn, .int c_fa, .int c_rf, .ref pt, .int c_ps, .int c_pl, .int c_to, .ref so, .ref mo, .ref wh, .ref pf])) := hup hf33 (hne k31 k30 (by intro q; cases q)) k31
    refine g_get C0 G k35 rfl hiX9 2 (by decide) mf_X9_9 rfl dX9_opens_144 ?_
    refine lv_iload_n hx hb dX9_opens_147 rfl (lv_at hl 1 rfl) ?_
    refine lv_bipush (v := 9) hx hb dX9_opens_148 (by decide) ?_
    refine g_cI C0 G (g_runS C0 G (rest := [.ref v]) (k_X9_at hfl 0 9) hY_X9_at mm_X9_62 ms_X9_at ⟨(Nat.le_of_ble_eq_true rfl), (Nat.le_of_ble_eq_true rfl)⟩ rfl hl.1 rfl (Nat.le_of_ble_eq_true rfl) dX9_opens_150 ⟨(Nat.le_of_ble_eq_true rfl), (Nat.le_of_ble_eq_true rfl)⟩) (kx_no rfl) (fun r38 u37 H locs hp36 G => ?_)
    obtain ⟨rfl, eu37⟩ := hp36
    rw [eu37] at G
    refine lv_topv (v := 34) (by decide) ?_
    refine lv_aload_n hx hb dX9_opens_153 rfl (lv_at hl 0 rfl) ?_
    refine g_get C0 G k35 rfl hiX9 2 (by decide) mf_X9_9 rfl dX9_opens_154 ?_
    refine lv_bipush (v := 22) hx hb dX9_opens_157 (by decide) ?_
    refine g_iald C0 G k34 0 rfl (by unfold vp_in; decide) dX9_opens_159 ?_
    refine lv_topv (v := 0) (by first | exact h22 | simp [upd, h22]) ?_
    refine g_iast C0 G k34 0 rfl (by unfold vp_in; decide) dX9_opens_160 (fun H locs f39 hf39 G => ?_)
    have k40 : f39 v = some (.inl (cy 0, 6441, .inl (upd (upd (upd (upd (upd (upd (upd (upd (upd (upd (upd (upd g 4 0) 6 0) 7 1) 8 (-1)) 9 (-1)) 10 0) 11 0) 12 (-1)) 13 ((upd (upd (upd (upd (upd (upd (upd (upd g 4 0) 6 0) 7 1) 8 (-1)) 9 (-1)) 10 0) 11 0) 12 (-1)) 3)) 18 ((upd (upd (upd (upd (upd (upd (upd (upd (upd g 4 0) 6 0) 7 1) 8 (-1)) 9 (-1)) 10 0) 11 0) 12 (-1)) 13 ((upd (upd (upd (upd (upd (upd (upd (upd g 4 0) 6 0) 7 1) 8 (-1)) 9 (-1)) 10 0) 11 0) 12 (-1)) 3)) 13)) 14 0) 34 0))) := hus hf39
    refine lv_iconst (v := 0) hx hb dX9_opens_161 (by decide) ?_
    refine lv_istore_n (lv' := [(2, .int 0), (0, .ref m), (1, .int 0)]) hx hb dX9_opens_162 rfl hl (by decide) rfl (fun ls hl => ?_)
    refine lv_iload_n hx hb dX9_opens_163 rfl (lv_at hl 0 rfl) ?_
    refine lv_bipush (v := 11) hx hb dX9_opens_164 (by decide) ?_
    refine lv_icmp_ge (tgt := 209) hx hb dX9_opens_166 (by decide) (fun c41 => absurd c41 (by decide)) (fun _ => ?_)
    refine lv_aload_n hx hb dX9_opens_169 rfl (lv_at hl 1 rfl) ?_
    have k42 : f39 m = some (.inr (11, [.int c_th, .int c_re, .ref v, .ref im, .ref kp, .ref pa, .ref de, .ref ide, .int c_un, .int c_hi, .ref tx, .int c_tn, .int c_fa, .int c_rf, .ref pt, .int c_ps, .int c_pl, .int c_to, .ref so, .ref mo, .ref wh, .ref pf])) := hup hf39 (hne k35 k34 (by intro q; cases q)) k35
    refine g_get C0 G k42 rfl hiX9 2 (by decide) mf_X9_9 rfl dX9_opens_170 ?_
    refine lv_iload_n hx hb dX9_opens_173 rfl (lv_at hl 2 rfl) ?_
    refine lv_iload_n hx hb dX9_opens_174 rfl (lv_at hl 0 rfl) ?_
    refine lv_iconst (v := 4) hx hb dX9_opens_175 (by decide) ?_
    refine g_cI C0 G (g_runS C0 G (rest := [.ref v]) (k_X9_batterAt hfl 0 0 4) hY_X9_batterAt mm_X9_65 ms_X9_batterAt ⟨(Nat.le_of_ble_eq_true rfl), (Nat.le_of_ble_eq_true rfl)⟩ rfl hl.1 rfl (Nat.le_of_ble_eq_true rfl) dX9_opens_176 ⟨(Nat.le_of_ble_eq_true rfl), (Nat.le_of_ble_eq_true rfl)⟩) (kx_no rfl) (fun r45 u44 H locs hp43 G => ?_)
    obtain ⟨rfl, eu44⟩ := hp43
    rw [eu44] at G
    refine lv_topv (v := 73) (by decide) ?_
    refine lv_iload_n hx hb dX9_opens_179 rfl (lv_at hl 0 rfl) ?_
    refine lv_iconst (v := 2) hx hb dX9_opens_180 (by decide) ?_
    refine lv_icmp_ge (tgt := 188) hx hb dX9_opens_181 (by decide) (fun c46 => absurd c46 (by decide)) (fun _ => ?_)
    refine lv_iconst (v := (-1)) hx hb dX9_opens_184 (by decide) ?_
    refine lv_goto (tgt := 190) hx hb dX9_opens_185 (by decide) ?_
    refine g_iast C0 G k40 0 rfl (by unfold vp_in; decide) dX9_opens_190 (fun H locs f47 hf47 G => ?_)
    have k48 : f47 v = some (.inl (cy 0, 6441, .inl (upd (upd (upd (upd (upd (upd (upd (upd (upd (upd (upd (upd (upd g 4 0) 6 0) 7 1) 8 (-1)) 9 (-1)) 10 0) 11 0) 12 (-1)) 13 ((upd (upd (upd (upd (upd (upd (upd (upd g 4 0) 6 0) 7 1) 8 (-1)) 9 (-1)) 10 0) 11 0) 12 (-1)) 3)) 18 ((upd (upd (upd (upd (upd (upd (upd (upd (upd g 4 0) 6 0) 7 1) 8 (-1)) 9 (-1)) 10 0) 11 0) 12 (-1)) 13 ((upd (upd (upd (upd (upd (upd (upd (upd g 4 0) 6 0) 7 1) 8 (-1)) 9 (-1)) 10 0) 11 0) 12 (-1)) 3)) 13)) 14 0) 34 0) 73 (-1)))) := hus hf47
    refine lv_aload_n hx hb dX9_opens_191 rfl (lv_at hl 1 rfl) ?_
    have k49 : f47 m = some (.inr (11, [.int c_th, .int c_re, .ref v, .ref im, .ref kp, .ref pa, .ref de, .ref ide, .int c_un, .int c_hi, .ref tx, .int c_tn, .int c_fa, .int c_rf, .ref pt, .int c_ps, .int c_pl, .int c_to, .ref so, .ref mo, .ref wh, .ref pf])) := hup hf47 (hne k42 k40 (by intro q; cases q)) k42
    refine g_get C0 G k49 rfl hiX9 2 (by decide) mf_X9_9 rfl dX9_opens_192 ?_
    refine lv_iload_n hx hb dX9_opens_195 rfl (lv_at hl 2 rfl) ?_
    refine lv_iload_n hx hb dX9_opens_196 rfl (lv_at hl 0 rfl) ?_
    refine lv_iconst (v := 5) hx hb dX9_opens_197 (by decide) ?_
    refine g_cI C0 G (g_runS C0 G (rest := [.ref v]) (k_X9_batterAt hfl 0 0 5) hY_X9_batterAt mm_X9_65 ms_X9_batterAt ⟨(Nat.le_of_ble_eq_true rfl), (Nat.le_of_ble_eq_true rfl)⟩ rfl hl.1 rfl (Nat.le_of_ble_eq_true rfl) dX9_opens_198 ⟨(Nat.le_of_ble_eq_true rfl), (Nat.le_of_ble_eq_true rfl)⟩) (kx_no rfl) (fun r52 u51 H locs hp50 G => ?_)
    obtain ⟨rfl, eu51⟩ := hp50
    rw [eu51] at G
    refine lv_topv (v := 74) (by decide) ?_
    refine lv_iconst (v := (-1)) hx hb dX9_opens_201 (by decide) ?_
    refine g_iast C0 G k48 0 rfl (by unfold vp_in; decide) dX9_opens_202 (fun H locs f53 hf53 G => ?_)
    have k54 : f53 v = some (.inl (cy 0, 6441, .inl (upd (upd (upd (upd (upd (upd (upd (upd (upd (upd (upd (upd (upd (upd g 4 0) 6 0) 7 1) 8 (-1)) 9 (-1)) 10 0) 11 0) 12 (-1)) 13 ((upd (upd (upd (upd (upd (upd (upd (upd g 4 0) 6 0) 7 1) 8 (-1)) 9 (-1)) 10 0) 11 0) 12 (-1)) 3)) 18 ((upd (upd (upd (upd (upd (upd (upd (upd (upd g 4 0) 6 0) 7 1) 8 (-1)) 9 (-1)) 10 0) 11 0) 12 (-1)) 13 ((upd (upd (upd (upd (upd (upd (upd (upd g 4 0) 6 0) 7 1) 8 (-1)) 9 (-1)) 10 0) 11 0) 12 (-1)) 3)) 13)) 14 0) 34 0) 73 (-1)) 74 (-1)))) := hus hf53
    refine lv_iinc (v := 1) (lv' := [(2, .int 1), (0, .ref m), (1, .int 0)]) hx hb dX9_opens_203 hl (k := 0) rfl (by exact (by decide)) (by decide) rfl (fun ls hl => ?_)
    refine lv_goto (tgt := 163) hx hb dX9_opens_206 (by decide) ?_
    refine lv_iload_n hx hb dX9_opens_163 rfl (lv_at hl 0 rfl) ?_
    refine lv_bipush (v := 11) hx hb dX9_opens_164 (by decide) ?_
    refine lv_icmp_ge (tgt := 209) hx hb dX9_opens_166 (by decide) (fun c56 => absurd c56 (by decide)) (fun _ => ?_)
    refine lv_aload_n hx hb dX9_opens_169 rfl (lv_at hl 1 rfl) ?_
    have k57 : f53 m = some (.inr (11, [.int c_th, .int c_re, .ref v, .ref im, .ref kp, .ref pa, .ref de, .ref ide, .int c_un, .int c_hi, .ref tx, .int c_tn, .int c_fa, .int c_rf, .ref pt, .int c_ps, .int c_pl, .int c_to, .ref so, .ref mo, .ref wh, .ref pf])) := hup hf53 (hne k49 k48 (by intro q; cases q)) k49
    refine g_get C0 G k57 rfl hiX9 2 (by decide) mf_X9_9 rfl dX9_opens_170 ?_
    refine lv_iload_n hx hb dX9_opens_173 rfl (lv_at hl 2 rfl) ?_
    refine lv_iload_n hx hb dX9_opens_174 rfl (lv_at hl 0 rfl) ?_
    refine lv_iconst (v := 4) hx hb dX9_opens_175 (by decide) ?_
    refine g_cI C0 G (g_runS C0 G (rest := [.ref v]) (k_X9_batterAt hfl 0 1 4) hY_X9_batterAt mm_X9_65 ms_X9_batterAt ⟨(Nat.le_of_ble_eq_true rfl), (Nat.le_of_ble_eq_true rfl)⟩ rfl hl.1 rfl (Nat.le_of_ble_eq_true rfl) dX9_opens_176 ⟨(Nat.le_of_ble_eq_true rfl), (Nat.le_of_ble_eq_true rfl)⟩) (kx_no rfl) (fun r60 u59 H locs hp58 G => ?_)
    obtain ⟨rfl, eu59⟩ := hp58
    rw [eu59] at G
    refine lv_topv (v := 79) (by decide) ?_
    refine lv_iload_n hx hb dX9_opens_179 rfl (lv_at hl 0 rfl) ?_
    refine lv_iconst (v := 2) hx hb dX9_opens_180 (by decide) ?_
    refine lv_icmp_ge (tgt := 188) hx hb dX9_opens_181 (by decide) (fun c61 => absurd c61 (by decide)) (fun _ => ?_)
    refine lv_iconst (v := (-1)) hx hb dX9_opens_184 (by decide) ?_
    refine lv_goto (tgt := 190) hx hb dX9_opens_185 (by decide) ?_
    refine g_iast C0 G k54 0 rfl (by unfold vp_in; decide) dX9_opens_190 (fun H locs f62 hf62 G => ?_)
    have k63 : f62 v = some (.inl (cy 0, 6441, .inl (upd (upd (upd (upd (upd (upd (upd (upd (upd (upd (upd (upd (upd (upd (upd g 4 0) 6 0) 7 1) 8 (-1)) 9 (-1)) 10 0) 11 0) 12 (-1)) 13 ((upd (upd (upd (upd (upd (upd (upd (upd g 4 0) 6 0) 7 1) 8 (-1)) 9 (-1)) 10 0) 11 0) 12 (-1)) 3)) 18 ((upd (upd (upd (upd (upd (upd (upd (upd (upd g 4 0) 6 0) 7 1) 8 (-1)) 9 (-1)) 10 0) 11 0) 12 (-1)) 13 ((upd (upd (upd (upd (upd (upd (upd (upd g 4 0) 6 0) 7 1) 8 (-1)) 9 (-1)) 10 0) 11 0) 12 (-1)) 3)) 13)) 14 0) 34 0) 73 (-1)) 74 (-1)) 79 (-1)))) := hus hf62
    refine lv_aload_n hx hb dX9_opens_191 rfl (lv_at hl 1 rfl) ?_
    have k64 : f62 m = some (.inr (11, [.int c_th, .int c_re, .ref v, .ref im, .ref kp, .ref pa, .ref de, .ref ide, .int c_un, .int c_hi, .ref tx, .int c_tn, .int c_fa, .int c_rf, .ref pt, .int c_ps, .int c_pl, .int c_to, .ref so, .ref mo, .ref wh, .ref pf])) := hup hf62 (hne k57 k54 (by intro q; cases q)) k57
    refine g_get C0 G k64 rfl hiX9 2 (by decide) mf_X9_9 rfl dX9_opens_192 ?_
    refine lv_iload_n hx hb dX9_opens_195 rfl (lv_at hl 2 rfl) ?_
    refine lv_iload_n hx hb dX9_opens_196 rfl (lv_at hl 0 rfl) ?_
    refine lv_iconst (v := 5) hx hb dX9_opens_197 (by decide) ?_
    refine g_cI C0 G (g_runS C0 G (rest := [.ref v]) (k_X9_batterAt hfl 0 1 5) hY_X9_batterAt mm_X9_65 ms_X9_batterAt ⟨(Nat.le_of_ble_eq_true rfl), (Nat.le_of_ble_eq_true rfl)⟩ rfl hl.1 rfl (Nat.le_of_ble_eq_true rfl) dX9_opens_198 ⟨(Nat.le_of_ble_eq_true rfl), (Nat.le_of_ble_eq_true rfl)⟩) (kx_no rfl) (fun r67 u66 H locs hp65 G => ?_)
    obtain ⟨rfl, eu66⟩ := hp65
    rw [eu66] at G
    refine lv_topv (v := 80) (by decide) ?_
    refine lv_iconst (v := (-1)) hx hb dX9_opens_201 (by decide) ?_
    refine g_iast C0 G k63 0 rfl (by unfold vp_in; decide) dX9_opens_202 (fun H locs f68 hf68 G => ?_)
    have k69 : f68 v = some (.inl (cy 0, 6441, .inl (upd (upd (upd (upd (upd (upd (upd (upd (upd (upd (upd (upd (upd (upd (upd (upd g 4 0) 6 0) 7 1) 8 (-1)) 9 (-1)) 10 0) 11 0) 12 (-1)) 13 ((upd (upd (upd (upd (upd (upd (upd (upd g 4 0) 6 0) 7 1) 8 (-1)) 9 (-1)) 10 0) 11 0) 12 (-1)) 3)) 18 ((upd (upd (upd (upd (upd (upd (upd (upd (upd g 4 0) 6 0) 7 1) 8 (-1)) 9 (-1)) 10 0) 11 0) 12 (-1)) 13 ((upd (upd (upd (upd (upd (upd (upd (upd g 4 0) 6 0) 7 1) 8 (-1)) 9 (-1)) 10 0) 11 0) 12 (-1)) 3)) 13)) 14 0) 34 0) 73 (-1)) 74 (-1)) 79 (-1)) 80 (-1)))) := hus hf68
    refine lv_iinc (v := 2) (lv' := [(2, .int 2), (0, .ref m), (1, .int 0)]) hx hb dX9_opens_203 hl (k := 0) rfl (by exact (by decide)) (by decide) rfl (fun ls hl => ?_)
    refine lv_goto (tgt := 163) hx hb dX9_opens_206 (by decide) ?_
    refine lv_iload_n hx hb dX9_opens_163 rfl (lv_at hl 0 rfl) ?_
    refine lv_bipush (v := 11) hx hb dX9_opens_164 (by decide) ?_
    refine lv_icmp_ge (tgt := 209) hx hb dX9_opens_166 (by decide) (fun c71 => absurd c71 (by decide)) (fun _ => ?_)
    refine lv_aload_n hx hb dX9_opens_169 rfl (lv_at hl 1 rfl) ?_
    have k72 : f68 m = some (.inr (11, [.int c_th, .int c_re, .ref v, .ref im, .ref kp, .ref pa, .ref de, .ref ide, .int c_un, .int c_hi, .ref tx, .int c_tn, .int c_fa, .int c_rf, .ref pt, .int c_ps, .int c_pl, .int c_to, .ref so, .ref mo, .ref wh, .ref pf])) := hup hf68 (hne k64 k63 (by intro q; cases q)) k64
    refine g_get C0 G k72 rfl hiX9 2 (by decide) mf_X9_9 rfl dX9_opens_170 ?_
    refine lv_iload_n hx hb dX9_opens_173 rfl (lv_at hl 2 rfl) ?_
    refine lv_iload_n hx hb dX9_opens_174 rfl (lv_at hl 0 rfl) ?_
    refine lv_iconst (v := 4) hx hb dX9_opens_175 (by decide) ?_
    refine g_cI C0 G (g_runS C0 G (rest := [.ref v]) (k_X9_batterAt hfl 0 2 4) hY_X9_batterAt mm_X9_65 ms_X9_batterAt ⟨(Nat.le_of_ble_eq_true rfl), (Nat.le_of_ble_eq_true rfl)⟩ rfl hl.1 rfl (Nat.le_of_ble_eq_true rfl) dX9_opens_176 ⟨(Nat.le_of_ble_eq_true rfl), (Nat.le_of_ble_eq_true rfl)⟩) (kx_no rfl) (fun r75 u74 H locs hp73 G => ?_)
    obtain ⟨rfl, eu74⟩ := hp73
    rw [eu74] at G
    refine lv_topv (v := 85) (by decide) ?_
    refine lv_iload_n hx hb dX9_opens_179 rfl (lv_at hl 0 rfl) ?_
    refine lv_iconst (v := 2) hx hb dX9_opens_180 (by decide) ?_
    refine lv_icmp_ge (tgt := 188) hx hb dX9_opens_181 (by decide) (fun _ => ?_) (fun c76 => absurd (by decide) c76)
    refine lv_bipush (v := (-2)) hx hb dX9_opens_188 (by decide) ?_
    refine g_iast C0 G k69 0 rfl (by unfold vp_in; decide) dX9_opens_190 (fun H locs f77 hf77 G => ?_)
    have k78 : f77 v = some (.inl (cy 0, 6441, .inl (upd (upd (upd (upd (upd (upd (upd (upd (upd (upd (upd (upd (upd (upd (upd (upd (upd g 4 0) 6 0) 7 1) 8 (-1)) 9 (-1)) 10 0) 11 0) 12 (-1)) 13 ((upd (upd (upd (upd (upd (upd (upd (upd g 4 0) 6 0) 7 1) 8 (-1)) 9 (-1)) 10 0) 11 0) 12 (-1)) 3)) 18 ((upd (upd (upd (upd (upd (upd (upd (upd (upd g 4 0) 6 0) 7 1) 8 (-1)) 9 (-1)) 10 0) 11 0) 12 (-1)) 13 ((upd (upd (upd (upd (upd (upd (upd (upd g 4 0) 6 0) 7 1) 8 (-1)) 9 (-1)) 10 0) 11 0) 12 (-1)) 3)) 13)) 14 0) 34 0) 73 (-1)) 74 (-1)) 79 (-1)) 80 (-1)) 85 (-2)))) := hus hf77
    refine lv_aload_n hx hb dX9_opens_191 rfl (lv_at hl 1 rfl) ?_
    have k79 : f77 m = some (.inr (11, [.int c_th, .int c_re, .ref v, .ref im, .ref kp, .ref pa, .ref de, .ref ide, .int c_un, .int c_hi, .ref tx, .int c_tn, .int c_fa, .int c_rf, .ref pt, .int c_ps, .int c_pl, .int c_to, .ref so, .ref mo, .ref wh, .ref pf])) := hup hf77 (hne k72 k69 (by intro q; cases q)) k72
    refine g_get C0 G k79 rfl hiX9 2 (by decide) mf_X9_9 rfl dX9_opens_192 ?_
    refine lv_iload_n hx hb dX9_opens_195 rfl (lv_at hl 2 rfl) ?_
    refine lv_iload_n hx hb dX9_opens_196 rfl (lv_at hl 0 rfl) ?_
    refine lv_iconst (v := 5) hx hb dX9_opens_197 (by decide) ?_
    refine g_cI C0 G (g_runS C0 G (rest := [.ref v]) (k_X9_batterAt hfl 0 2 5) hY_X9_batterAt mm_X9_65 ms_X9_batterAt ⟨(Nat.le_of_ble_eq_true rfl), (Nat.le_of_ble_eq_true rfl)⟩ rfl hl.1 rfl (Nat.le_of_ble_eq_true rfl) dX9_opens_198 ⟨(Nat.le_of_ble_eq_true rfl), (Nat.le_of_ble_eq_true rfl)⟩) (kx_no rfl) (fun r82 u81 H locs hp80 G => ?_)
    obtain ⟨rfl, eu81⟩ := hp80
    rw [eu81] at G
    refine lv_topv (v := 86) (by decide) ?_
    refine lv_iconst (v := (-1)) hx hb dX9_opens_201 (by decide) ?_
    refine g_iast C0 G k78 0 rfl (by unfold vp_in; decide) dX9_opens_202 (fun H locs f83 hf83 G => ?_)
    have k84 : f83 v = some (.inl (cy 0, 6441, .inl (upd (upd (upd (upd (upd (upd (upd (upd (upd (upd (upd (upd (upd (upd (upd (upd (upd (upd g 4 0) 6 0) 7 1) 8 (-1)) 9 (-1)) 10 0) 11 0) 12 (-1)) 13 ((upd (upd (upd (upd (upd (upd (upd (upd g 4 0) 6 0) 7 1) 8 (-1)) 9 (-1)) 10 0) 11 0) 12 (-1)) 3)) 18 ((upd (upd (upd (upd (upd (upd (upd (upd (upd g 4 0) 6 0) 7 1) 8 (-1)) 9 (-1)) 10 0) 11 0) 12 (-1)) 13 ((upd (upd (upd (upd (upd (upd (upd (upd g 4 0) 6 0) 7 1) 8 (-1)) 9 (-1)) 10 0) 11 0) 12 (-1)) 3)) 13)) 14 0) 34 0) 73 (-1)) 74 (-1)) 79 (-1)) 80 (-1)) 85 (-2)) 86 (-1)))) := hus hf83
    refine lv_iinc (v := 3) (lv' := [(2, .int 3), (0, .ref m), (1, .int 0)]) hx hb dX9_opens_203 hl (k := 0) rfl (by exact (by decide)) (by decide) rfl (fun ls hl => ?_)
    refine lv_goto (tgt := 163) hx hb dX9_opens_206 (by decide) ?_
    refine lv_iload_n hx hb dX9_opens_163 rfl (lv_at hl 0 rfl) ?_
    refine lv_bipush (v := 11) hx hb dX9_opens_164 (by decide) ?_
    refine lv_icmp_ge (tgt := 209) hx hb dX9_opens_166 (by decide) (fun c86 => absurd c86 (by decide)) (fun _ => ?_)
    refine lv_aload_n hx hb dX9_opens_169 rfl (lv_at hl 1 rfl) ?_
    have k87 : f83 m = some (.inr (11, [.int c_th, .int c_re, .ref v, .ref im, .ref kp, .ref pa, .ref de, .ref ide, .int c_un, .int c_hi, .ref tx, .int c_tn, .int c_fa, .int c_rf, .ref pt, .int c_ps, .int c_pl, .int c_to, .ref so, .ref mo, .ref wh, .ref pf])) := hup hf83 (hne k79 k78 (by intro q; cases q)) k79
    refine g_get C0 G k87 rfl hiX9 2 (by decide) mf_X9_9 rfl dX9_opens_170 ?_
    refine lv_iload_n hx hb dX9_opens_173 rfl (lv_at hl 2 rfl) ?_
    refine lv_iload_n hx hb dX9_opens_174 rfl (lv_at hl 0 rfl) ?_
    refine lv_iconst (v := 4) hx hb dX9_opens_175 (by decide) ?_
    refine g_cI C0 G (g_runS C0 G (rest := [.ref v]) (k_X9_batterAt hfl 0 3 4) hY_X9_batterAt mm_X9_65 ms_X9_batterAt ⟨(Nat.le_of_ble_eq_true rfl), (Nat.le_of_ble_eq_true rfl)⟩ rfl hl.1 rfl (Nat.le_of_ble_eq_true rfl) dX9_opens_176 ⟨(Nat.le_of_ble_eq_true rfl), (Nat.le_of_ble_eq_true rfl)⟩) (kx_no rfl) (fun r90 u89 H locs hp88 G => ?_)
    obtain ⟨rfl, eu89⟩ := hp88
    rw [eu89] at G
    refine lv_topv (v := 91) (by decide) ?_
    refine lv_iload_n hx hb dX9_opens_179 rfl (lv_at hl 0 rfl) ?_
    refine lv_iconst (v := 2) hx hb dX9_opens_180 (by decide) ?_
    refine lv_icmp_ge (tgt := 188) hx hb dX9_opens_181 (by decide) (fun _ => ?_) (fun c91 => absurd (by decide) c91)
    refine lv_bipush (v := (-2)) hx hb dX9_opens_188 (by decide) ?_
    refine g_iast C0 G k84 0 rfl (by unfold vp_in; decide) dX9_opens_190 (fun H locs f92 hf92 G => ?_)
    have k93 : f92 v = some (.inl (cy 0, 6441, .inl (upd (upd (upd (upd (upd (upd (upd (upd (upd (upd (upd (upd (upd (upd (upd (upd (upd (upd (upd g 4 0) 6 0) 7 1) 8 (-1)) 9 (-1)) 10 0) 11 0) 12 (-1)) 13 ((upd (upd (upd (upd (upd (upd (upd (upd g 4 0) 6 0) 7 1) 8 (-1)) 9 (-1)) 10 0) 11 0) 12 (-1)) 3)) 18 ((upd (upd (upd (upd (upd (upd (upd (upd (upd g 4 0) 6 0) 7 1) 8 (-1)) 9 (-1)) 10 0) 11 0) 12 (-1)) 13 ((upd (upd (upd (upd (upd (upd (upd (upd g 4 0) 6 0) 7 1) 8 (-1)) 9 (-1)) 10 0) 11 0) 12 (-1)) 3)) 13)) 14 0) 34 0) 73 (-1)) 74 (-1)) 79 (-1)) 80 (-1)) 85 (-2)) 86 (-1)) 91 (-2)))) := hus hf92
    refine lv_aload_n hx hb dX9_opens_191 rfl (lv_at hl 1 rfl) ?_
    have k94 : f92 m = some (.inr (11, [.int c_th, .int c_re, .ref v, .ref im, .ref kp, .ref pa, .ref de, .ref ide, .int c_un, .int c_hi, .ref tx, .int c_tn, .int c_fa, .int c_rf, .ref pt, .int c_ps, .int c_pl, .int c_to, .ref so, .ref mo, .ref wh, .ref pf])) := hup hf92 (hne k87 k84 (by intro q; cases q)) k87
    refine g_get C0 G k94 rfl hiX9 2 (by decide) mf_X9_9 rfl dX9_opens_192 ?_
    refine lv_iload_n hx hb dX9_opens_195 rfl (lv_at hl 2 rfl) ?_
    refine lv_iload_n hx hb dX9_opens_196 rfl (lv_at hl 0 rfl) ?_
    refine lv_iconst (v := 5) hx hb dX9_opens_197 (by decide) ?_
    refine g_cI C0 G (g_runS C0 G (rest := [.ref v]) (k_X9_batterAt hfl 0 3 5) hY_X9_batterAt mm_X9_65 ms_X9_batterAt ⟨(Nat.le_of_ble_eq_true rfl), (Nat.le_of_ble_eq_true rfl)⟩ rfl hl.1 rfl (Nat.le_of_ble_eq_true rfl) dX9_opens_198 ⟨(Nat.le_of_ble_eq_true rfl), (Nat.le_of_ble_eq_true rfl)⟩) (kx_no rfl) (fun r97 u96 H locs hp95 G => ?_)
    obtain ⟨rfl, eu96⟩ := hp95
    rw [eu96] at G
    refine lv_topv (v := 92) (by decide) ?_
    refine lv_iconst (v := (-1)) hx hb dX9_opens_201 (by decide) ?_
    refine g_iast C0 G k93 0 rfl (by unfold vp_in; decide) dX9_opens_202 (fun H locs f98 hf98 G => ?_)
    have k99 : f98 v = some (.inl (cy 0, 6441, .inl (upd (upd (upd (upd (upd (upd (upd (upd (upd (upd (upd (upd (upd (upd (upd (upd (upd (upd (upd (upd g 4 0) 6 0) 7 1) 8 (-1)) 9 (-1)) 10 0) 11 0) 12 (-1)) 13 ((upd (upd (upd (upd (upd (upd (upd (upd g 4 0) 6 0) 7 1) 8 (-1)) 9 (-1)) 10 0) 11 0) 12 (-1)) 3)) 18 ((upd (upd (upd (upd (upd (upd (upd (upd (upd g 4 0) 6 0) 7 1) 8 (-1)) 9 (-1)) 10 0) 11 0) 12 (-1)) 13 ((upd (upd (upd (upd (upd (upd (upd (upd g 4 0) 6 0) 7 1) 8 (-1)) 9 (-1)) 10 0) 11 0) 12 (-1)) 3)) 13)) 14 0) 34 0) 73 (-1)) 74 (-1)) 79 (-1)) 80 (-1)) 85 (-2)) 86 (-1)) 91 (-2)) 92 (-1)))) := hus hf98
    refine lv_iinc (v := 4) (lv' := [(2, .int 4), (0, .ref m), (1, .int 0)]) hx hb dX9_opens_203 hl (k := 0) rfl (by exact (by decide)) (by decide) rfl (fun ls hl => ?_)
    refine lv_goto (tgt := 163) hx hb dX9_opens_206 (by decide) ?_
    refine lv_iload_n hx hb dX9_opens_163 rfl (lv_at hl 0 rfl) ?_
    refine lv_bipush (v := 11) hx hb dX9_opens_164 (by decide) ?_
    refine lv_icmp_ge (tgt := 209) hx hb dX9_opens_166 (by decide) (fun c101 => absurd c101 (by decide)) (fun _ => ?_)
    refine lv_aload_n hx hb dX9_opens_169 rfl (lv_at hl 1 rfl) ?_
    have k102 : f98 m = some (.inr (11, [.int c_th, .int c_re, .ref v, .ref im, .ref kp, .ref pa, .ref de, .ref ide, .int c_un, .int c_hi, .ref tx, .int c_tn, .int c_fa, .int c_rf, .ref pt, .int c_ps, .int c_pl, .int c_to, .ref so, .ref mo, .ref wh, .ref pf])) := hup hf98 (hne k94 k93 (by intro q; cases q)) k94
    refine g_get C0 G k102 rfl hiX9 2 (by decide) mf_X9_9 rfl dX9_opens_170 ?_
    refine lv_iload_n hx hb dX9_opens_173 rfl (lv_at hl 2 rfl) ?_
    refine lv_iload_n hx hb dX9_opens_174 rfl (lv_at hl 0 rfl) ?_
    refine lv_iconst (v := 4) hx hb dX9_opens_175 (by decide) ?_
    refine g_cI C0 G (g_runS C0 G (rest := [.ref v]) (k_X9_batterAt hfl 0 4 4) hY_X9_batterAt mm_X9_65 ms_X9_batterAt ⟨(Nat.le_of_ble_eq_true rfl), (Nat.le_of_ble_eq_true rfl)⟩ rfl hl.1 rfl (Nat.le_of_ble_eq_true rfl) dX9_opens_176 ⟨(Nat.le_of_ble_eq_true rfl), (Nat.le_of_ble_eq_true rfl)⟩) (kx_no rfl) (fun r105 u104 H locs hp103 G => ?_)
    obtain ⟨rfl, eu104⟩ := hp103
    rw [eu104] at G
    refine lv_topv (v := 97) (by decide) ?_
    refine lv_iload_n hx hb dX9_opens_179 rfl (lv_at hl 0 rfl) ?_
    refine lv_iconst (v := 2) hx hb dX9_opens_180 (by decide) ?_
    refine lv_icmp_ge (tgt := 188) hx hb dX9_opens_181 (by decide) (fun _ => ?_) (fun c106 => absurd (by decide) c106)
    refine lv_bipush (v := (-2)) hx hb dX9_opens_188 (by decide) ?_
    refine g_iast C0 G k99 0 rfl (by unfold vp_in; decide) dX9_opens_190 (fun H locs f107 hf107 G => ?_)
    have k108 : f107 v = some (.inl (cy 0, 6441, .inl (upd (upd (upd (upd (upd (upd (upd (upd (upd (upd (upd (upd (upd (upd (upd (upd (upd (upd (upd (upd (upd g 4 0) 6 0) 7 1) 8 (-1)) 9 (-1)) 10 0) 11 0) 12 (-1)) 13 ((upd (upd (upd (upd (upd (upd (upd (upd g 4 0) 6 0) 7 1) 8 (-1)) 9 (-1)) 10 0) 11 0) 12 (-1)) 3)) 18 ((upd (upd (upd (upd (upd (upd (upd (upd (upd g 4 0) 6 0) 7 1) 8 (-1)) 9 (-1)) 10 0) 11 0) 12 (-1)) 13 ((upd (upd (upd (upd (upd (upd (upd (upd g 4 0) 6 0) 7 1) 8 (-1)) 9 (-1)) 10 0) 11 0) 12 (-1)) 3)) 13)) 14 0) 34 0) 73 (-1)) 74 (-1)) 79 (-1)) 80 (-1)) 85 (-2)) 86 (-1)) 91 (-2)) 92 (-1)) 97 (-2)))) := hus hf107
    refine lv_aload_n hx hb dX9_opens_191 rfl (lv_at hl 1 rfl) ?_
    have k109 : f107 m = some (.inr (11, [.int c_th, .int c_re, .ref v, .ref im, .ref kp, .ref pa, .ref de, .ref ide, .int c_un, .int c_hi, .ref tx, .int c_tn, .int c_fa, .int c_rf, .ref pt, .int c_ps, .int c_pl, .int c_to, .ref so, .ref mo, .ref wh, .ref pf])) := hup hf107 (hne k102 k99 (by intro q; cases q)) k102
    refine g_get C0 G k109 rfl hiX9 2 (by decide) mf_X9_9 rfl dX9_opens_192 ?_
    refine lv_iload_n hx hb dX9_opens_195 rfl (lv_at hl 2 rfl) ?_
    refine lv_iload_n hx hb dX9_opens_196 rfl (lv_at hl 0 rfl) ?_
    refine lv_iconst (v := 5) hx hb dX9_opens_197 (by decide) ?_
    refine g_cI C0 G (g_runS C0 G (rest := [.ref v]) (k_X9_batterAt hfl 0 4 5) hY_X9_batterAt mm_X9_65 ms_X9_batterAt ⟨(Nat.le_of_ble_eq_true rfl), (Nat.le_of_ble_eq_true rfl)⟩ rfl hl.1 rfl (Nat.le_of_ble_eq_true rfl) dX9_opens_198 ⟨(Nat.le_of_ble_eq_true rfl), (Nat.le_of_ble_eq_true rfl)⟩) (kx_no rfl) (fun r112 u111 H locs hp110 G => ?_)
    obtain ⟨rfl, eu111⟩ := hp110
    rw [eu111] at G
    refine lv_topv (v := 98) (by decide) ?_
    refine lv_iconst (v := (-1)) hx hb dX9_opens_201 (by decide) ?_
    refine g_iast C0 G k108 0 rfl (by unfold vp_in; decide) dX9_opens_202 (fun H locs f113 hf113 G => ?_)
    have k114 : f113 v = some (.inl (cy 0, 6441, .inl (upd (upd (upd (upd (upd (upd (upd (upd (upd (upd (upd (upd (upd (upd (upd (upd (upd (upd (upd (upd (upd (upd g 4 0) 6 0) 7 1) 8 (-1)) 9 (-1)) 10 0) 11 0) 12 (-1)) 13 ((upd (upd (upd (upd (upd (upd (upd (upd g 4 0) 6 0) 7 1) 8 (-1)) 9 (-1)) 10 0) 11 0) 12 (-1)) 3)) 18 ((upd (upd (upd (upd (upd (upd (upd (upd (upd g 4 0) 6 0) 7 1) 8 (-1)) 9 (-1)) 10 0) 11 0) 12 (-1)) 13 ((upd (upd (upd (upd (upd (upd (upd (upd g 4 0) 6 0) 7 1) 8 (-1)) 9 (-1)) 10 0) 11 0) 12 (-1)) 3)) 13)) 14 0) 34 0) 73 (-1)) 74 (-1)) 79 (-1)) 80 (-1)) 85 (-2)) 86 (-1)) 91 (-2)) 92 (-1)) 97 (-2)) 98 (-1)))) := hus hf113
    refine lv_iinc (v := 5) (lv' := [(2, .int 5), (0, .ref m), (1, .int 0)]) hx hb dX9_opens_203 hl (k := 0) rfl (by exact (by decide)) (by decide) rfl (fun ls hl => ?_)
    refine lv_goto (tgt := 163) hx hb dX9_opens_206 (by decide) ?_
    refine lv_iload_n hx hb dX9_opens_163 rfl (lv_at hl 0 rfl) ?_
    refine lv_bipush (v := 11) hx hb dX9_opens_164 (by decide) ?_
    refine lv_icmp_ge (tgt := 209) hx hb dX9_opens_166 (by decide) (fun c116 => absurd c116 (by decide)) (fun _ => ?_)
    refine lv_aload_n hx hb dX9_opens_169 rfl (lv_at hl 1 rfl) ?_
    have k117 : f113 m = some (.inr (11, [.int c_th, .int c_re, .ref v, .ref im, .ref kp, .ref pa, .ref de, .ref ide, .int c_un, .int c_hi, .ref tx, .int c_tn, .int c_fa, .int c_rf, .ref pt, .int c_ps, .int c_pl, .int c_to, .ref so, .ref mo, .ref wh, .ref pf])) := hup hf113 (hne k109 k108 (by intro q; cases q)) k109
    refine g_get C0 G k117 rfl hiX9 2 (by decide) mf_X9_9 rfl dX9_opens_170 ?_
    refine lv_iload_n hx hb dX9_opens_173 rfl (lv_at hl 2 rfl) ?_
    refine lv_iload_n hx hb dX9_opens_174 rfl (lv_at hl 0 rfl) ?_
    refine lv_iconst (v := 4) hx hb dX9_opens_175 (by decide) ?_
    refine g_cI C0 G (g_runS C0 G (rest := [.ref v]) (k_X9_batterAt hfl 0 5 4) hY_X9_batterAt mm_X9_65 ms_X9_batterAt ⟨(Nat.le_of_ble_eq_true rfl), (Nat.le_of_ble_eq_true rfl)⟩ rfl hl.1 rfl (Nat.le_of_ble_eq_true rfl) dX9_opens_176 ⟨(Nat.le_of_ble_eq_true rfl), (Nat.le_of_ble_eq_true rfl)⟩) (kx_no rfl) (fun r120 u119 H locs hp118 G => ?_)
    obtain ⟨rfl, eu119⟩ := hp118
    rw [eu119] at G
    refine lv_topv (v := 103) (by decide) ?_
    refine lv_iload_n hx hb dX9_opens_179 rfl (lv_at hl 0 rfl) ?_
    refine lv_iconst (v := 2) hx hb dX9_opens_180 (by decide) ?_
    refine lv_icmp_ge (tgt := 188) hx hb dX9_opens_181 (by decide) (fun _ => ?_) (fun c121 => absurd (by decide) c121)
    refine lv_bipush (v := (-2)) hx hb dX9_opens_188 (by decide) ?_
    refine g_iast C0 G k114 0 rfl (by unfold vp_in; decide) dX9_opens_190 (fun H locs f122 hf122 G => ?_)
    have k123 : f122 v = some (.inl (cy 0, 6441, .inl (upd (upd (upd (upd (upd (upd (upd (upd (upd (upd (upd (upd (upd (upd (upd (upd (upd (upd (upd (upd (upd (upd (upd g 4 0) 6 0) 7 1) 8 (-1)) 9 (-1)) 10 0) 11 0) 12 (-1)) 13 ((upd (upd (upd (upd (upd (upd (upd (upd g 4 0) 6 0) 7 1) 8 (-1)) 9 (-1)) 10 0) 11 0) 12 (-1)) 3)) 18 ((upd (upd (upd (upd (upd (upd (upd (upd (upd g 4 0) 6 0) 7 1) 8 (-1)) 9 (-1)) 10 0) 11 0) 12 (-1)) 13 ((upd (upd (upd (upd (upd (upd (upd (upd g 4 0) 6 0) 7 1) 8 (-1)) 9 (-1)) 10 0) 11 0) 12 (-1)) 3)) 13)) 14 0) 34 0) 73 (-1)) 74 (-1)) 79 (-1)) 80 (-1)) 85 (-2)) 86 (-1)) 91 (-2)) 92 (-1)) 97 (-2)) 98 (-1)) 103 (-2)))) := hus hf122
    refine lv_aload_n hx hb dX9_opens_191 rfl (lv_at hl 1 rfl) ?_
    have k124 : f122 m = some (.inr (11, [.int c_th, .int c_re, .ref v, .ref im, .ref kp, .ref pa, .ref de, .ref ide, .int c_un, .int c_hi, .ref tx, .int c_tn, .int c_fa, .int c_rf, .ref pt, .int c_ps, .int c_pl, .int c_to, .ref so, .ref mo, .ref wh, .ref pf])) := hup hf122 (hne k117 k114 (by intro q; cases q)) k117
    refine g_get C0 G k124 rfl hiX9 2 (by decide) mf_X9_9 rfl dX9_opens_192 ?_
    refine lv_iload_n hx hb dX9_opens_195 rfl (lv_at hl 2 rfl) ?_
    refine lv_iload_n hx hb dX9_opens_196 rfl (lv_at hl 0 rfl) ?_
    refine lv_iconst (v := 5) hx hb dX9_opens_197 (by decide) ?_
    refine g_cI C0 G (g_runS C0 G (rest := [.ref v]) (k_X9_batterAt hfl 0 5 5) hY_X9_batterAt mm_X9_65 ms_X9_batterAt ⟨(Nat.le_of_ble_eq_true rfl), (Nat.le_of_ble_eq_true rfl)⟩ rfl hl.1 rfl (Nat.le_of_ble_eq_true rfl) dX9_opens_198 ⟨(Nat.le_of_ble_eq_true rfl), (Nat.le_of_ble_eq_true rfl)⟩) (kx_no rfl) (fun r127 u126 H locs hp125 G => ?_)
    obtain ⟨rfl, eu126⟩ := hp125
    rw [eu126] at G
    refine lv_topv (v := 104) (by decide) ?_
    refine lv_iconst (v := (-1)) hx hb dX9_opens_201 (by decide) ?_
    refine g_iast C0 G k123 0 rfl (by unfold vp_in; decide) dX9_opens_202 (fun H locs f128 hf128 G => ?_)
    have k129 : f128 v = some (.inl (cy 0, 6441, .inl (upd (upd (upd (upd (upd (upd (upd (upd (upd (upd (upd (upd (upd (upd (upd (upd (upd (upd (upd (upd (upd (upd (upd (upd g 4 0) 6 0) 7 1) 8 (-1)) 9 (-1)) 10 0) 11 0) 12 (-1)) 13 ((upd (upd (upd (upd (upd (upd (upd (upd g 4 0) 6 0) 7 1) 8 (-1)) 9 (-1)) 10 0) 11 0) 12 (-1)) 3)) 18 ((upd (upd (upd (upd (upd (upd (upd (upd (upd g 4 0) 6 0) 7 1) 8 (-1)) 9 (-1)) 10 0) 11 0) 12 (-1)) 13 ((upd (upd (upd (upd (upd (upd (upd (upd g 4 0) 6 0) 7 1) 8 (-1)) 9 (-1)) 10 0) 11 0) 12 (-1)) 3)) 13)) 14 0) 34 0) 73 (-1)) 74 (-1)) 79 (-1)) 80 (-1)) 85 (-2)) 86 (-1)) 91 (-2)) 92 (-1)) 97 (-2)) 98 (-1)) 103 (-2)) 104 (-1)))) := hus hf128
    refine lv_iinc (v := 6) (lv' := [(2, .int 6), (0, .ref m), (1, .int 0)]) hx hb dX9_opens_203 hl (k := 0) rfl (by exact (by decide)) (by decide) rfl (fun ls hl => ?_)
    refine lv_goto (tgt := 163) hx hb dX9_opens_206 (by decide) ?_
    refine lv_iload_n hx hb dX9_opens_163 rfl (lv_at hl 0 rfl) ?_
    refine lv_bipush (v := 11) hx hb dX9_opens_164 (by decide) ?_
    refine lv_icmp_ge (tgt := 209) hx hb dX9_opens_166 (by decide) (fun c131 => absurd c131 (by decide)) (fun _ => ?_)
    refine lv_aload_n hx hb dX9_opens_169 rfl (lv_at hl 1 rfl) ?_
    have k132 : f128 m = some (.inr (11, [.int c_th, .int c_re, .ref v, .ref im, .ref kp, .ref pa, .ref de, .ref ide, .int c_un, .int c_hi, .ref tx, .int c_tn, .int c_fa, .int c_rf, .ref pt, .int c_ps, .int c_pl, .int c_to, .ref so, .ref mo, .ref wh, .ref pf])) := hup hf128 (hne k124 k123 (by intro q; cases q)) k124
    refine g_get C0 G k132 rfl hiX9 2 (by decide) mf_X9_9 rfl dX9_opens_170 ?_
    refine lv_iload_n hx hb dX9_opens_173 rfl (lv_at hl 2 rfl) ?_
    refine lv_iload_n hx hb dX9_opens_174 rfl (lv_at hl 0 rfl) ?_
    refine lv_iconst (v := 4) hx hb dX9_opens_175 (by decide) ?_
    refine g_cI C0 G (g_runS C0 G (rest := [.ref v]) (k_X9_batterAt hfl 0 6 4) hY_X9_batterAt mm_X9_65 ms_X9_batterAt ⟨(Nat.le_of_ble_eq_true rfl), (Nat.le_of_ble_eq_true rfl)⟩ rfl hl.1 rfl (Nat.le_of_ble_eq_true rfl) dX9_opens_176 ⟨(Nat.le_of_ble_eq_true rfl), (Nat.le_of_ble_eq_true rfl)⟩) (kx_no rfl) (fun r135 u134 H locs hp133 G => ?_)
    obtain ⟨rfl, eu134⟩ := hp133
    rw [eu134] at G
    refine lv_topv (v := 109) (by decide) ?_
    refine lv_iload_n hx hb dX9_opens_179 rfl (lv_at hl 0 rfl) ?_
    refine lv_iconst (v := 2) hx hb dX9_opens_180 (by decide) ?_
    refine lv_icmp_ge (tgt := 188) hx hb dX9_opens_181 (by decide) (fun _ => ?_) (fun c136 => absurd (by decide) c136)
    refine lv_bipush (v := (-2)) hx hb dX9_opens_188 (by decide) ?_
    refine g_iast C0 G k129 0 rfl (by unfold vp_in; decide) dX9_opens_190 (fun H locs f137 hf137 G => ?_)
    have k138 : f137 v = some (.inl (cy 0, 6441, .inl (upd (upd (upd (upd (upd (upd (upd (upd (upd (upd (upd (upd (upd (upd (upd (upd (upd (upd (upd (upd (upd (upd (upd (upd (upd g 4 0) 6 0) 7 1) 8 (-1)) 9 (-1)) 10 0) 11 0) 12 (-1)) 13 ((upd (upd (upd (upd (upd (upd (upd (upd g 4 0) 6 0) 7 1) 8 (-1)) 9 (-1)) 10 0) 11 0) 12 (-1)) 3)) 18 ((upd (upd (upd (upd (upd (upd (upd (upd (upd g 4 0) 6 0) 7 1) 8 (-1)) 9 (-1)) 10 0) 11 0) 12 (-1)) 13 ((upd (upd (upd (upd (upd (upd (upd (upd g 4 0) 6 0) 7 1) 8 (-1)) 9 (-1)) 10 0) 11 0) 12 (-1)) 3)) 13)) 14 0) 34 0) 73 (-1)) 74 (-1)) 79 (-1)) 80 (-1)) 85 (-2)) 86 (-1)) 91 (-2)) 92 (-1)) 97 (-2)) 98 (-1)) 103 (-2)) 104 (-1)) 109 (-2)))) := hus hf137
    refine lv_aload_n hx hb dX9_opens_191 rfl (lv_at hl 1 rfl) ?_
    have k139 : f137 m = some (.inr (11, [.int c_th, .int c_re, .ref v, .ref im, .ref kp, .ref pa, .ref de, .ref ide, .int c_un, .int c_hi, .ref tx, .int c_tn, .int c_fa, .int c_rf, .ref pt, .int c_ps, .int c_pl, .int c_to, .ref so, .ref mo, .ref wh, .ref pf])) := hup hf137 (hne k132 k129 (by intro q; cases q)) k132
    refine g_get C0 G k139 rfl hiX9 2 (by decide) mf_X9_9 rfl dX9_opens_192 ?_
    refine lv_iload_n hx hb dX9_opens_195 rfl (lv_at hl 2 rfl) ?_
    refine lv_iload_n hx hb dX9_opens_196 rfl (lv_at hl 0 rfl) ?_
    refine lv_iconst (v := 5) hx hb dX9_opens_197 (by decide) ?_
    refine g_cI C0 G (g_runS C0 G (rest := [.ref v]) (k_X9_batterAt hfl 0 6 5) hY_X9_batterAt mm_X9_65 ms_X9_batterAt ⟨(Nat.le_of_ble_eq_true rfl), (Nat.le_of_ble_eq_true rfl)⟩ rfl hl.1 rfl (Nat.le_of_ble_eq_true rfl) dX9_opens_198 ⟨(Nat.le_of_ble_eq_true rfl), (Nat.le_of_ble_eq_true rfl)⟩) (kx_no rfl) (fun r142 u141 H locs hp140 G => ?_)
    obtain ⟨rfl, eu141⟩ := hp140
    rw [eu141] at G
    refine lv_topv (v := 110) (by decide) ?_
    refine lv_iconst (v := (-1)) hx hb dX9_opens_201 (by decide) ?_
    refine g_iast C0 G k138 0 rfl (by unfold vp_in; decide) dX9_opens_202 (fun H locs f143 hf143 G => ?_)
    have k144 : f143 v = some (.inl (cy 0, 6441, .inl (upd (upd (upd (upd (upd (upd (upd (upd (upd (upd (upd (upd (upd (upd (upd (upd (upd (upd (upd (upd (upd (upd (upd (upd (upd (upd g 4 0) 6 0) 7 1) 8 (-1)) 9 (-1)) 10 0) 11 0) 12 (-1)) 13 ((upd (upd (upd (upd (upd (upd (upd (upd g 4 0) 6 0) 7 1) 8 (-1)) 9 (-1)) 10 0) 11 0) 12 (-1)) 3)) 18 ((upd (upd (upd (upd (upd (upd (upd (upd (upd g 4 0) 6 0) 7 1) 8 (-1)) 9 (-1)) 10 0) 11 0) 12 (-1)) 13 ((upd (upd (upd (upd (upd (upd (upd (upd g 4 0) 6 0) 7 1) 8 (-1)) 9 (-1)) 10 0) 11 0) 12 (-1)) 3)) 13)) 14 0) 34 0) 73 (-1)) 74 (-1)) 79 (-1)) 80 (-1)) 85 (-2)) 86 (-1)) 91 (-2)) 92 (-1)) 97 (-2)) 98 (-1)) 103 (-2)) 104 (-1)) 109 (-2)) 110 (-1)))) := hus hf143
    refine lv_iinc (v := 7) (lv' := [(2, .int 7), (0, .ref m), (1, .int 0)]) hx hb dX9_opens_203 hl (k := 0) rfl (by exact (by decide)) (by decide) rfl (fun ls hl => ?_)
    refine lv_goto (tgt := 163) hx hb dX9_opens_206 (by decide) ?_
    refine lv_iload_n hx hb dX9_opens_163 rfl (lv_at hl 0 rfl) ?_
    refine lv_bipush (v := 11) hx hb dX9_opens_164 (by decide) ?_
    refine lv_icmp_ge (tgt := 209) hx hb dX9_opens_166 (by decide) (fun c146 => absurd c146 (by decide)) (fun _ => ?_)
    refine lv_aload_n hx hb dX9_opens_169 rfl (lv_at hl 1 rfl) ?_
    have k147 : f143 m = some (.inr (11, [.int c_th, .int c_re, .ref v, .ref im, .ref kp, .ref pa, .ref de, .ref ide, .int c_un, .int c_hi, .ref tx, .int c_tn, .int c_fa, .int c_rf, .ref pt, .int c_ps, .int c_pl, .int c_to, .ref so, .ref mo, .ref wh, .ref pf])) := hup hf143 (hne k139 k138 (by intro q; cases q)) k139
    refine g_get C0 G k147 rfl hiX9 2 (by decide) mf_X9_9 rfl dX9_opens_170 ?_
    refine lv_iload_n hx hb dX9_opens_173 rfl (lv_at hl 2 rfl) ?_
    refine lv_iload_n hx hb dX9_opens_174 rfl (lv_at hl 0 rfl) ?_
    refine lv_iconst (v := 4) hx hb dX9_opens_175 (by decide) ?_
    refine g_cI C0 G (g_runS C0 G (rest := [.ref v]) (k_X9_batterAt hfl 0 7 4) hY_X9_batterAt mm_X9_65 ms_X9_batterAt ⟨(Nat.le_of_ble_eq_true rfl), (Nat.le_of_ble_eq_true rfl)⟩ rfl hl.1 rfl (Nat.le_of_ble_eq_true rfl) dX9_opens_176 ⟨(Nat.le_of_ble_eq_true rfl), (Nat.le_of_ble_eq_true rfl)⟩) (kx_no rfl) (fun r150 u149 H locs hp148 G => ?_)
    obtain ⟨rfl, eu149⟩ := hp148
    rw [eu149] at G
    refine lv_topv (v := 115) (by decide) ?_
    refine lv_iload_n hx hb dX9_opens_179 rfl (lv_at hl 0 rfl) ?_
    refine lv_iconst (v := 2) hx hb dX9_opens_180 (by decide) ?_
    refine lv_icmp_ge (tgt := 188) hx hb dX9_opens_181 (by decide) (fun _ => ?_) (fun c151 => absurd (by decide) c151)
    refine lv_bipush (v := (-2)) hx hb dX9_opens_188 (by decide) ?_
    refine g_iast C0 G k144 0 rfl (by unfold vp_in; decide) dX9_opens_190 (fun H locs f152 hf152 G => ?_)
    have k153 : f152 v = some (.inl (cy 0, 6441, .inl (upd (upd (upd (upd (upd (upd (upd (upd (upd (upd (upd (upd (upd (upd (upd (upd (upd (upd (upd (upd (upd (upd (upd (upd (upd (upd (upd g 4 0) 6 0) 7 1) 8 (-1)) 9 (-1)) 10 0) 11 0) 12 (-1)) 13 ((upd (upd (upd (upd (upd (upd (upd (upd g 4 0) 6 0) 7 1) 8 (-1)) 9 (-1)) 10 0) 11 0) 12 (-1)) 3)) 18 ((upd (upd (upd (upd (upd (upd (upd (upd (upd g 4 0) 6 0) 7 1) 8 (-1)) 9 (-1)) 10 0) 11 0) 12 (-1)) 13 ((upd (upd (upd (upd (upd (upd (upd (upd g 4 0) 6 0) 7 1) 8 (-1)) 9 (-1)) 10 0) 11 0) 12 (-1)) 3)) 13)) 14 0) 34 0) 73 (-1)) 74 (-1)) 79 (-1)) 80 (-1)) 85 (-2)) 86 (-1)) 91 (-2)) 92 (-1)) 97 (-2)) 98 (-1)) 103 (-2)) 104 (-1)) 109 (-2)) 110 (-1)) 115 (-2)))) := hus hf152
    refine lv_aload_n hx hb dX9_opens_191 rfl (lv_at hl 1 rfl) ?_
    have k154 : f152 m = some (.inr (11, [.int c_th, .int c_re, .ref v, .ref im, .ref kp, .ref pa, .ref de, .ref ide, .int c_un, .int c_hi, .ref tx, .int c_tn, .int c_fa, .int c_rf, .ref pt, .int c_ps, .int c_pl, .int c_to, .ref so, .ref mo, .ref wh, .ref pf])) := hup hf152 (hne k147 k144 (by intro q; cases q)) k147
    refine g_get C0 G k154 rfl hiX9 2 (by decide) mf_X9_9 rfl dX9_opens_192 ?_
    refine lv_iload_n hx hb dX9_opens_195 rfl (lv_at hl 2 rfl) ?_
    refine lv_iload_n hx hb dX9_opens_196 rfl (lv_at hl 0 rfl) ?_
    refine lv_iconst (v := 5) hx hb dX9_opens_197 (by decide) ?_
    refine g_cI C0 G (g_runS C0 G (rest := [.ref v]) (k_X9_batterAt hfl 0 7 5) hY_X9_batterAt mm_X9_65 ms_X9_batterAt ⟨(Nat.le_of_ble_eq_true rfl), (Nat.le_of_ble_eq_true rfl)⟩ rfl hl.1 rfl (Nat.le_of_ble_eq_true rfl) dX9_opens_198 ⟨(Nat.le_of_ble_eq_true rfl), (Nat.le_of_ble_eq_true rfl)⟩) (kx_no rfl) (fun r157 u156 H locs hp155 G => ?_)
    obtain ⟨rfl, eu156⟩ := hp155
    rw [eu156] at G
    refine lv_topv (v := 116) (by decide) ?_
    refine lv_iconst (v := (-1)) hx hb dX9_opens_201 (by decide) ?_
    refine g_iast C0 G k153 0 rfl (by unfold vp_in; decide) dX9_opens_202 (fun H locs f158 hf158 G => ?_)
    have k159 : f158 v = some (.inl (cy 0, 6441, .inl (upd (upd (upd (upd (upd (upd (upd (upd (upd (upd (upd (upd (upd (upd (upd (upd (upd (upd (upd (upd (upd (upd (upd (upd (upd (upd (upd (upd g 4 0) 6 0) 7 1) 8 (-1)) 9 (-1)) 10 0) 11 0) 12 (-1)) 13 ((upd (upd (upd (upd (upd (upd (upd (upd g 4 0) 6 0) 7 1) 8 (-1)) 9 (-1)) 10 0) 11 0) 12 (-1)) 3)) 18 ((upd (upd (upd (upd (upd (upd (upd (upd (upd g 4 0) 6 0) 7 1) 8 (-1)) 9 (-1)) 10 0) 11 0) 12 (-1)) 13 ((upd (upd (upd (upd (upd (upd (upd (upd g 4 0) 6 0) 7 1) 8 (-1)) 9 (-1)) 10 0) 11 0) 12 (-1)) 3)) 13)) 14 0) 34 0) 73 (-1)) 74 (-1)) 79 (-1)) 80 (-1)) 85 (-2)) 86 (-1)) 91 (-2)) 92 (-1)) 97 (-2)) 98 (-1)) 103 (-2)) 104 (-1)) 109 (-2)) 110 (-1)) 115 (-2)) 116 (-1)))) := hus hf158
    refine lv_iinc (v := 8) (lv' := [(2, .int 8), (0, .ref m), (1, .int 0)]) hx hb dX9_opens_203 hl (k := 0) rfl (by exact (by decide)) (by decide) rfl (fun ls hl => ?_)
    refine lv_goto (tgt := 163) hx hb dX9_opens_206 (by decide) ?_
    refine lv_iload_n hx hb dX9_opens_163 rfl (lv_at hl 0 rfl) ?_
    refine lv_bipush (v := 11) hx hb dX9_opens_164 (by decide) ?_
    refine lv_icmp_ge (tgt := 209) hx hb dX9_opens_166 (by decide) (fun c161 => absurd c161 (by decide)) (fun _ => ?_)
    refine lv_aload_n hx hb dX9_opens_169 rfl (lv_at hl 1 rfl) ?_
    have k162 : f158 m = some (.inr (11, [.int c_th, .int c_re, .ref v, .ref im, .ref kp, .ref pa, .ref de, .ref ide, .int c_un, .int c_hi, .ref tx, .int c_tn, .int c_fa, .int c_rf, .ref pt, .int c_ps, .int c_pl, .int c_to, .ref so, .ref mo, .ref wh, .ref pf])) := hup hf158 (hne k154 k153 (by intro q; cases q)) k154
    refine g_get C0 G k162 rfl hiX9 2 (by decide) mf_X9_9 rfl dX9_opens_170 ?_
    refine lv_iload_n hx hb dX9_opens_173 rfl (lv_at hl 2 rfl) ?_
    refine lv_iload_n hx hb dX9_opens_174 rfl (lv_at hl 0 rfl) ?_
    refine lv_iconst (v := 4) hx hb dX9_opens_175 (by decide) ?_
    refine g_cI C0 G (g_runS C0 G (rest := [.ref v]) (k_X9_batterAt hfl 0 8 4) hY_X9_batterAt mm_X9_65 ms_X9_batterAt ⟨(Nat.le_of_ble_eq_true rfl), (Nat.le_of_ble_eq_true rfl)⟩ rfl hl.1 rfl (Nat.le_of_ble_eq_true rfl) dX9_opens_176 ⟨(Nat.le_of_ble_eq_true rfl), (Nat.le_of_ble_eq_true rfl)⟩) (kx_no rfl) (fun r165 u164 H locs hp163 G => ?_)
    obtain ⟨rfl, eu164⟩ := hp163
    rw [eu164] at G
    refine lv_topv (v := 121) (by decide) ?_
    refine lv_iload_n hx hb dX9_opens_179 rfl (lv_at hl 0 rfl) ?_
    refine lv_iconst (v := 2) hx hb dX9_opens_180 (by decide) ?_
    refine lv_icmp_ge (tgt := 188) hx hb dX9_opens_181 (by decide) (fun _ => ?_) (fun c166 => absurd (by decide) c166)
    refine lv_bipush (v := (-2)) hx hb dX9_opens_188 (by decide) ?_
    refine g_iast C0 G k159 0 rfl (by unfold vp_in; decide) dX9_opens_190 (fun H locs f167 hf167 G => ?_)
    have k168 : f167 v = some (.inl (cy 0, 6441, .inl (upd (upd (upd (upd (upd (upd (upd (upd (upd (upd (upd (upd (upd (upd (upd (upd (upd (upd (upd (upd (upd (upd (upd (upd (upd (upd (upd (upd (upd g 4 0) 6 0) 7 1) 8 (-1)) 9 (-1)) 10 0) 11 0) 12 (-1)) 13 ((upd (upd (upd (upd (upd (upd (upd (upd g 4 0) 6 0) 7 1) 8 (-1)) 9 (-1)) 10 0) 11 0) 12 (-1)) 3)) 18 ((upd (upd (upd (upd (upd (upd (upd (upd (upd g 4 0) 6 0) 7 1) 8 (-1)) 9 (-1)) 10 0) 11 0) 12 (-1)) 13 ((upd (upd (upd (upd (upd (upd (upd (upd g 4 0) 6 0) 7 1) 8 (-1)) 9 (-1)) 10 0) 11 0) 12 (-1)) 3)) 13)) 14 0) 34 0) 73 (-1)) 74 (-1)) 79 (-1)) 80 (-1)) 85 (-2)) 86 (-1)) 91 (-2)) 92 (-1)) 97 (-2)) 98 (-1)) 103 (-2)) 104 (-1)) 109 (-2)) 110 (-1)) 115 (-2)) 116 (-1)) 121 (-2)))) := hus hf167
    refine lv_aload_n hx hb dX9_opens_191 rfl (lv_at hl 1 rfl) ?_
    have k169 : f167 m = some (.inr (11, [.int c_th, .int c_re, .ref v, .ref im, .ref kp, .ref pa, .ref de, .ref ide, .int c_un, .int c_hi, .ref tx, .int c_tn, .int c_fa, .int c_rf, .ref pt, .int c_ps, .int c_pl, .int c_to, .ref so, .ref mo, .ref wh, .ref pf])) := hup hf167 (hne k162 k159 (by intro q; cases q)) k162
    refine g_get C0 G k169 rfl hiX9 2 (by decide) mf_X9_9 rfl dX9_opens_192 ?_
    refine lv_iload_n hx hb dX9_opens_195 rfl (lv_at hl 2 rfl) ?_
    refine lv_iload_n hx hb dX9_opens_196 rfl (lv_at hl 0 rfl) ?_
    refine lv_iconst (v := 5) hx hb dX9_opens_197 (by decide) ?_
    refine g_cI C0 G (g_runS C0 G (rest := [.ref v]) (k_X9_batterAt hfl 0 8 5) hY_X9_batterAt mm_X9_65 ms_X9_batterAt ⟨(Nat.le_of_ble_eq_true rfl), (Nat.le_of_ble_eq_true rfl)⟩ rfl hl.1 rfl (Nat.le_of_ble_eq_true rfl) dX9_opens_198 ⟨(Nat.le_of_ble_eq_true rfl), (Nat.le_of_ble_eq_true rfl)⟩) (kx_no rfl) (fun r172 u171 H locs hp170 G => ?_)
    obtain ⟨rfl, eu171⟩ := hp170
    rw [eu171] at G
    refine lv_topv (v := 122) (by decide) ?_
    refine lv_iconst (v := (-1)) hx hb dX9_opens_201 (by decide) ?_
    refine g_iast C0 G k168 0 rfl (by unfold vp_in; decide) dX9_opens_202 (fun H locs f173 hf173 G => ?_)
    have k174 : f173 v = some (.inl (cy 0, 6441, .inl (upd (upd (upd (upd (upd (upd (upd (upd (upd (upd (upd (upd (upd (upd (upd (upd (upd (upd (upd (upd (upd (upd (upd (upd (upd (upd (upd (upd (upd (upd g 4 0) 6 0) 7 1) 8 (-1)) 9 (-1)) 10 0) 11 0) 12 (-1)) 13 ((upd (upd (upd (upd (upd (upd (upd (upd g 4 0) 6 0) 7 1) 8 (-1)) 9 (-1)) 10 0) 11 0) 12 (-1)) 3)) 18 ((upd (upd (upd (upd (upd (upd (upd (upd (upd g 4 0) 6 0) 7 1) 8 (-1)) 9 (-1)) 10 0) 11 0) 12 (-1)) 13 ((upd (upd (upd (upd (upd (upd (upd (upd g 4 0) 6 0) 7 1) 8 (-1)) 9 (-1)) 10 0) 11 0) 12 (-1)) 3)) 13)) 14 0) 34 0) 73 (-1)) 74 (-1)) 79 (-1)) 80 (-1)) 85 (-2)) 86 (-1)) 91 (-2)) 92 (-1)) 97 (-2)) 98 (-1)) 103 (-2)) 104 (-1)) 109 (-2)) 110 (-1)) 115 (-2)) 116 (-1)) 121 (-2)) 122 (-1)))) := hus hf173
    refine lv_iinc (v := 9) (lv' := [(2, .int 9), (0, .ref m), (1, .int 0)]) hx hb dX9_opens_203 hl (k := 0) rfl (by exact (by decide)) (by decide) rfl (fun ls hl => ?_)
    refine lv_goto (tgt := 163) hx hb dX9_opens_206 (by decide) ?_
    refine lv_iload_n hx hb dX9_opens_163 rfl (lv_at hl 0 rfl) ?_
    refine lv_bipush (v := 11) hx hb dX9_opens_164 (by decide) ?_
    refine lv_icmp_ge (tgt := 209) hx hb dX9_opens_166 (by decide) (fun c176 => absurd c176 (by decide)) (fun _ => ?_)
    refine lv_aload_n hx hb dX9_opens_169 rfl (lv_at hl 1 rfl) ?_
    have k177 : f173 m = some (.inr (11, [.int c_th, .int c_re, .ref v, .ref im, .ref kp, .ref pa, .ref de, .ref ide, .int c_un, .int c_hi, .ref tx, .int c_tn, .int c_fa, .int c_rf, .ref pt, .int c_ps, .int c_pl, .int c_to, .ref so, .ref mo, .ref wh, .ref pf])) := hup hf173 (hne k169 k168 (by intro q; cases q)) k169
    refine g_get C0 G k177 rfl hiX9 2 (by decide) mf_X9_9 rfl dX9_opens_170 ?_
    refine lv_iload_n hx hb dX9_opens_173 rfl (lv_at hl 2 rfl) ?_
    refine lv_iload_n hx hb dX9_opens_174 rfl (lv_at hl 0 rfl) ?_
    refine lv_iconst (v := 4) hx hb dX9_opens_175 (by decide) ?_
    refine g_cI C0 G (g_runS C0 G (rest := [.ref v]) (k_X9_batterAt hfl 0 9 4) hY_X9_batterAt mm_X9_65 ms_X9_batterAt ⟨(Nat.le_of_ble_eq_true rfl), (Nat.le_of_ble_eq_true rfl)⟩ rfl hl.1 rfl (Nat.le_of_ble_eq_true rfl) dX9_opens_176 ⟨(Nat.le_of_ble_eq_true rfl), (Nat.le_of_ble_eq_true rfl)⟩) (kx_no rfl) (fun r180 u179 H locs hp178 G => ?_)
    obtain ⟨rfl, eu179⟩ := hp178
    rw [eu179] at G
    refine lv_topv (v := 127) (by decide) ?_
    refine lv_iload_n hx hb dX9_opens_179 rfl (lv_at hl 0 rfl) ?_
    refine lv_iconst (v := 2) hx hb dX9_opens_180 (by decide) ?_
    refine lv_icmp_ge (tgt := 188) hx hb dX9_opens_181 (by decide) (fun _ => ?_) (fun c181 => absurd (by decide) c181)
    refine lv_bipush (v := (-2)) hx hb dX9_opens_188 (by decide) ?_
    refine g_iast C0 G k174 0 rfl (by unfold vp_in; decide) dX9_opens_190 (fun H locs f182 hf182 G => ?_)
    have k183 : f182 v = some (.inl (cy 0, 6441, .inl (upd (upd (upd (upd (upd (upd (upd (upd (upd (upd (upd (upd (upd (upd (upd (upd (upd (upd (upd (upd (upd (upd (upd (upd (upd (upd (upd (upd (upd (upd (upd g 4 0) 6 0) 7 1) 8 (-1)) 9 (-1)) 10 0) 11 0) 12 (-1)) 13 ((upd (upd (upd (upd (upd (upd (upd (upd g 4 0) 6 0) 7 1) 8 (-1)) 9 (-1)) 10 0) 11 0) 12 (-1)) 3)) 18 ((upd (upd (upd (upd (upd (upd (upd (upd (upd g 4 0) 6 0) 7 1) 8 (-1)) 9 (-1)) 10 0) 11 0) 12 (-1)) 13 ((upd (upd (upd (upd (upd (upd (upd (upd g 4 0) 6 0) 7 1) 8 (-1)) 9 (-1)) 10 0) 11 0) 12 (-1)) 3)) 13)) 14 0) 34 0) 73 (-1)) 74 (-1)) 79 (-1)) 80 (-1)) 85 (-2)) 86 (-1)) 91 (-2)) 92 (-1)) 97 (-2)) 98 (-1)) 103 (-2)) 104 (-1)) 109 (-2)) 110 (-1)) 115 (-2)) 116 (-1)) 121 (-2)) 122 (-1)) 127 (-2)))) := hus hf182
    refine lv_aload_n hx hb dX9_opens_191 rfl (lv_at hl 1 rfl) ?_
    have k184 : f182 m = some (.inr (11, [.int c_th, .int c_re, .ref v, .ref im, .ref kp, .ref pa, .ref de, .ref ide, .int c_un, .int c_hi, .ref tx, .int c_tn, .int c_fa, .int c_rf, .ref pt, .int c_ps, .int c_pl, .int c_to, .ref so, .ref mo, .ref wh, .ref pf])) := hup hf182 (hne k177 k174 (by intro q; cases q)) k177
    refine g_get C0 G k184 rfl hiX9 2 (by decide) mf_X9_9 rfl dX9_opens_192 ?_
    refine lv_iload_n hx hb dX9_opens_195 rfl (lv_at hl 2 rfl) ?_
    refine lv_iload_n hx hb dX9_opens_196 rfl (lv_at hl 0 rfl) ?_
    refine lv_iconst (v := 5) hx hb dX9_opens_197 (by decide) ?_
    refine g_cI C0 G (g_runS C0 G (rest := [.ref v]) (k_X9_batterAt hfl 0 9 5) hY_X9_batterAt mm_X9_65 ms_X9_batterAt ⟨(Nat.le_of_ble_eq_true rfl), (Nat.le_of_ble_eq_true rfl)⟩ rfl hl.1 rfl (Nat.le_of_ble_eq_true rfl) dX9_opens_198 ⟨(Nat.le_of_ble_eq_true rfl), (Nat.le_of_ble_eq_true rfl)⟩) (kx_no rfl) (fun r187 u186 H locs hp185 G => ?_)
    obtain ⟨rfl, eu186⟩ := hp185
    rw [eu186] at G
    refine lv_topv (v := 128) (by decide) ?_
    refine lv_iconst (v := (-1)) hx hb dX9_opens_201 (by decide) ?_
    refine g_iast C0 G k183 0 rfl (by unfold vp_in; decide) dX9_opens_202 (fun H locs f188 hf188 G => ?_)
    have k189 : f188 v = some (.inl (cy 0, 6441, .inl (upd (upd (upd (upd (upd (upd (upd (upd (upd (upd (upd (upd (upd (upd (upd (upd (upd (upd (upd (upd (upd (upd (upd (upd (upd (upd (upd (upd (upd (upd (upd (upd g 4 0) 6 0) 7 1) 8 (-1)) 9 (-1)) 10 0) 11 0) 12 (-1)) 13 ((upd (upd (upd (upd (upd (upd (upd (upd g 4 0) 6 0) 7 1) 8 (-1)) 9 (-1)) 10 0) 11 0) 12 (-1)) 3)) 18 ((upd (upd (upd (upd (upd (upd (upd (upd (upd g 4 0) 6 0) 7 1) 8 (-1)) 9 (-1)) 10 0) 11 0) 12 (-1)) 13 ((upd (upd (upd (upd (upd (upd (upd (upd g 4 0) 6 0) 7 1) 8 (-1)) 9 (-1)) 10 0) 11 0) 12 (-1)) 3)) 13)) 14 0) 34 0) 73 (-1)) 74 (-1)) 79 (-1)) 80 (-1)) 85 (-2)) 86 (-1)) 91 (-2)) 92 (-1)) 97 (-2)) 98 (-1)) 103 (-2)) 104 (-1)) 109 (-2)) 110 (-1)) 115 (-2)) 116 (-1)) 121 (-2)) 122 (-1)) 127 (-2)) 128 (-1)))) := hus hf188
    refine lv_iinc (v := 10) (lv' := [(2, .int 10), (0, .ref m), (1, .int 0)]) hx hb dX9_opens_203 hl (k := 0) rfl (by exact (by decide)) (by decide) rfl (fun ls hl => ?_)
    refine lv_goto (tgt := 163) hx hb dX9_opens_206 (by decide) ?_
    refine lv_iload_n hx hb dX9_opens_163 rfl (lv_at hl 0 rfl) ?_
    refine lv_bipush (v := 11) hx hb dX9_opens_164 (by decide) ?_
    refine lv_icmp_ge (tgt := 209) hx hb dX9_opens_166 (by decide) (fun c191 => absurd c191 (by decide)) (fun _ => ?_)
    refine lv_aload_n hx hb dX9_opens_169 rfl (lv_at hl 1 rfl) ?_
    have k192 : f188 m = some (.inr (11, [.int c_th, .int c_re, .ref v, .ref im, .ref kp, .ref pa, .ref de, .ref ide, .int c_un, .int c_hi, .ref tx, .int c_tn, .int c_fa, .int c_rf, .ref pt, .int c_ps, .int c_pl, .int c_to, .ref so, .ref mo, .ref wh, .ref pf])) := hup hf188 (hne k184 k183 (by intro q; cases q)) k184
    refine g_get C0 G k192 rfl hiX9 2 (by decide) mf_X9_9 rfl dX9_opens_170 ?_
    refine lv_iload_n hx hb dX9_opens_173 rfl (lv_at hl 2 rfl) ?_
    refine lv_iload_n hx hb dX9_opens_174 rfl (lv_at hl 0 rfl) ?_
    refine lv_iconst (v := 4) hx hb dX9_opens_175 (by decide) ?_
    refine g_cI C0 G (g_runS C0 G (rest := [.ref v]) (k_X9_batterAt hfl 0 10 4) hY_X9_batterAt mm_X9_65 ms_X9_batterAt ⟨(Nat.le_of_ble_eq_true rfl), (Nat.le_of_ble_eq_true rfl)⟩ rfl hl.1 rfl (Nat.le_of_ble_eq_true rfl) dX9_opens_176 ⟨(Nat.le_of_ble_eq_true rfl), (Nat.le_of_ble_eq_true rfl)⟩) (kx_no rfl) (fun r195 u194 H locs hp193 G => ?_)
    obtain ⟨rfl, eu194⟩ := hp193
    rw [eu194] at G
    refine lv_topv (v := 133) (by decide) ?_
    refine lv_iload_n hx hb dX9_opens_179 rfl (lv_at hl 0 rfl) ?_
    refine lv_iconst (v := 2) hx hb dX9_opens_180 (by decide) ?_
    refine lv_icmp_ge (tgt := 188) hx hb dX9_opens_181 (by decide) (fun _ => ?_) (fun c196 => absurd (by decide) c196)
    refine lv_bipush (v := (-2)) hx hb dX9_opens_188 (by decide) ?_
    refine g_iast C0 G k189 0 rfl (by unfold vp_in; decide) dX9_opens_190 (fun H locs f197 hf197 G => ?_)
    have k198 : f197 v = some (.inl (cy 0, 6441, .inl (upd (upd (upd (upd (upd (upd (upd (upd (upd (upd (upd (upd (upd (upd (upd (upd (upd (upd (upd (upd (upd (upd (upd (upd (upd (upd (upd (upd (upd (upd (upd (upd (upd g 4 0) 6 0) 7 1) 8 (-1)) 9 (-1)) 10 0) 11 0) 12 (-1)) 13 ((upd (upd (upd (upd (upd (upd (upd (upd g 4 0) 6 0) 7 1) 8 (-1)) 9 (-1)) 10 0) 11 0) 12 (-1)) 3)) 18 ((upd (upd (upd (upd (upd (upd (upd (upd (upd g 4 0) 6 0) 7 1) 8 (-1)) 9 (-1)) 10 0) 11 0) 12 (-1)) 13 ((upd (upd (upd (upd (upd (upd (upd (upd g 4 0) 6 0) 7 1) 8 (-1)) 9 (-1)) 10 0) 11 0) 12 (-1)) 3)) 13)) 14 0) 34 0) 73 (-1)) 74 (-1)) 79 (-1)) 80 (-1)) 85 (-2)) 86 (-1)) 91 (-2)) 92 (-1)) 97 (-2)) 98 (-1)) 103 (-2)) 104 (-1)) 109 (-2)) 110 (-1)) 115 (-2)) 116 (-1)) 121 (-2)) 122 (-1)) 127 (-2)) 128 (-1)) 133 (-2)))) := hus hf197
    refine lv_aload_n hx hb dX9_opens_191 rfl (lv_at hl 1 rfl) ?_
    have k199 : f197 m = some (.inr (11, [.int c_th, .int c_re, .ref v, .ref im, .ref kp, .ref pa, .ref de, .ref ide, .int c_un, .int c_hi, .ref tx, .int c_tn, .int c_fa, .int c_rf, .ref pt, .int c_ps, .int c_pl, .int c_to, .ref so, .ref mo, .ref wh, .ref pf])) := hup hf197 (hne k192 k189 (by intro q; cases q)) k192
    refine g_get C0 G k199 rfl hiX9 2 (by decide) mf_X9_9 rfl dX9_opens_192 ?_
    refine lv_iload_n hx hb dX9_opens_195 rfl (lv_at hl 2 rfl) ?_
    refine lv_iload_n hx hb dX9_opens_196 rfl (lv_at hl 0 rfl) ?_
    refine lv_iconst (v := 5) hx hb dX9_opens_197 (by decide) ?_
    refine g_cI C0 G (g_runS C0 G (rest := [.ref v]) (k_X9_batterAt hfl 0 10 5) hY_X9_batterAt mm_X9_65 ms_X9_batterAt ⟨(Nat.le_of_ble_eq_true rfl), (Nat.le_of_ble_eq_true rfl)⟩ rfl hl.1 rfl (Nat.le_of_ble_eq_true rfl) dX9_opens_198 ⟨(Nat.le_of_ble_eq_true rfl), (Nat.le_of_ble_eq_true rfl)⟩) (kx_no rfl) (fun r202 u201 H locs hp200 G => ?_)
    obtain ⟨rfl, eu201⟩ := hp200
    rw [eu201] at G
    refine lv_topv (v := 134) (by decide) ?_
    refine lv_iconst (v := (-1)) hx hb dX9_opens_201 (by decide) ?_
    refine g_iast C0 G k198 0 rfl (by unfold vp_in; decide) dX9_opens_202 (fun H locs f203 hf203 G => ?_)
    have k204 : f203 v = some (.inl (cy 0, 6441, .inl (upd (upd (upd (upd (upd (upd (upd (upd (upd (upd (upd (upd (upd (upd (upd (upd (upd (upd (upd (upd (upd (upd (upd (upd (upd (upd (upd (upd (upd (upd (upd (upd (upd (upd g 4 0) 6 0) 7 1) 8 (-1)) 9 (-1)) 10 0) 11 0) 12 (-1)) 13 ((upd (upd (upd (upd (upd (upd (upd (upd g 4 0) 6 0) 7 1) 8 (-1)) 9 (-1)) 10 0) 11 0) 12 (-1)) 3)) 18 ((upd (upd (upd (upd (upd (upd (upd (upd (upd g 4 0) 6 0) 7 1) 8 (-1)) 9 (-1)) 10 0) 11 0) 12 (-1)) 13 ((upd (upd (upd (upd (upd (upd (upd (upd g 4 0) 6 0) 7 1) 8 (-1)) 9 (-1)) 10 0) 11 0) 12 (-1)) 3)) 13)) 14 0) 34 0) 73 (-1)) 74 (-1)) 79 (-1)) 80 (-1)) 85 (-2)) 86 (-1)) 91 (-2)) 92 (-1)) 97 (-2)) 98 (-1)) 103 (-2)) 104 (-1)) 109 (-2)) 110 (-1)) 115 (-2)) 116 (-1)) 121 (-2)) 122 (-1)) 127 (-2)) 128 (-1)) 133 (-2)) 134 (-1)))) := hus hf203
    refine lv_iinc (v := 11) (lv' := [(2, .int 11), (0, .ref m), (1, .int 0)]) hx hb dX9_opens_203 hl (k := 0) rfl (by exact (by decide)) (by decide) rfl (fun ls hl => ?_)
    refine lv_goto (tgt := 163) hx hb dX9_opens_206 (by decide) ?_
    refine lv_iload_n hx hb dX9_opens_163 rfl (lv_at hl 0 rfl) ?_
    refine lv_bipush (v := 11) hx hb dX9_opens_164 (by decide) ?_
    refine lv_icmp_ge (tgt := 209) hx hb dX9_opens_166 (by decide) (fun _ => ?_) (fun c206 => absurd (by decide) c206)
    refine lv_aload_n hx hb dX9_opens_209 rfl (lv_at hl 1 rfl) ?_
    have k207 : f203 m = some (.inr (11, [.int c_th, .int c_re, .ref v, .ref im, .ref kp, .ref pa, .ref de, .ref ide, .int c_un, .int c_hi, .ref tx, .int c_tn, .int c_fa, .int c_rf, .ref pt, .int c_ps, .int c_pl, .int c_to, .ref so, .ref mo, .ref wh, .ref pf])) := hup hf203 (hne k199 k198 (by intro q; cases q)) k199
    refine g_cV C0 G (g_runV C0 G (rest := []) (k_X9_share hfl k207 k204 (by first | exact h22 | simp [upd, h22] | simp [upd])) k207 rfl hY_X9_share mm_X9_69 mi_X9_share ml_X9_share ⟨(Nat.le_of_ble_eq_true rfl), (Nat.le_of_ble_eq_true rfl)⟩ rfl hl.1 rfl (Nat.le_of_ble_eq_true rfl) dX9_opens_210 ⟨(Nat.le_of_ble_eq_true rfl), (Nat.le_of_ble_eq_true rfl)⟩) (kx_no rfl) (fun u209 H locs hp208 G => ?_)
    exact g_vret C0 G hr dX9_opens_213 (Nat.le_of_ble_eq_true rfl) (Nat.le_of_ble_eq_true rfl) (by exact fun a9 e9 h7 h8 => hp208 _ _ (fun q => h7 (by simp only [List.mem_cons, List.not_mem_nil, or_false] at q ⊢; omega)) (hup hf203 (fun q => h7 (by rw [q]; simp)) (hup hf197 (fun q => h7 (by rw [q]; simp)) (hup hf188 (fun q => h7 (by rw [q]; simp)) (hup hf182 (fun q => h7 (by rw [q]; simp)) (hup hf173 (fun q => h7 (by rw [q]; simp)) (hup hf167 (fun q => h7 (by rw [q]; simp)) (hup hf158 (fun q => h7 (by rw [q]; simp)) (hup hf152 (fun q => h7 (by rw [q]; simp)) (hup hf143 (fun q => h7 (by rw [q]; simp)) (hup hf137 (fun q => h7 (by rw [q]; simp)) (hup hf128 (fun q => h7 (by rw [q]; simp)) (hup hf122 (fun q => h7 (by rw [q]; simp)) (hup hf113 (fun q => h7 (by rw [q]; simp)) (hup hf107 (fun q => h7 (by rw [q]; simp)) (hup hf98 (fun q => h7 (by rw [q]; simp)) (hup hf92 (fun q => h7 (by rw [q]; simp)) (hup hf83 (fun q => h7 (by rw [q]; simp)) (hup hf77 (fun q => h7 (by rw [q]; simp)) (hup hf68 (fun q => h7 (by rw [q]; simp)) (hup hf62 (fun q => h7 (by rw [q]; simp)) (hup hf53 (fun q => h7 (by rw [q]; simp)) (hup hf47 (fun q => h7 (by rw [q]; simp)) (hup hf39 (fun q => h7 (by rw [q]; simp)) (hup hf33 (fun q => h7 (by rw [q]; simp)) (hup hf29 (fun q => h7 (by rw [q]; simp)) (hup hf26 (fun q => h7 (by rw [q]; simp)) (hup hf22 (fun q => h7 (by rw [q]; simp)) (hup hf19 (fun q => h7 (by rw [q]; simp)) (hup hf16 (fun q => h7 (by rw [q]; simp)) (hup hf13 (fun q => h7 (by rw [q]; simp)) (hup hf10 (fun q => h7 (by rw [q]; simp)) (hup hf7 (fun q => h7 (by rw [q]; simp)) (hup hf4 (fun q => h7 (by rw [q]; simp)) (hup hf1 (fun q => h7 (by rw [q]; simp)) (h8))))))))))))))))))))))))))))))))))))
  · refine lv_bipush (v := 6) hx hb dX9_opens_124 (by decide) ?_
    refine lv_aload_n hx hb dX9_opens_126 rfl (lv_at hl 0 rfl) ?_
    refine g_get C0 G k31 rfl hiX9 2 (by decide) mf_X9_9 rfl dX9_opens_127 ?_
    refine lv_bipush (v := 13) hx hb dX9_opens_130 (by decide) ?_
    refine g_iald C0 G k30 0 rfl (by unfold vp_in; decide) dX9_opens_132 ?_
    refine lv_imul hx hb dX9_opens_133 ?_
    refine lv_iconst (v := 0) hx hb dX9_opens_134 (by decide) ?_
    refine g_cI C0 G (g_runS C0 G (rest := [.int 14, .ref v]) (k_X9_worth hfl (6 * ((upd (upd (upd (upd (upd (upd (upd (upd (upd (upd g 4 0) 6 0) 7 1) 8 (-1)) 9 (-1)) 10 0) 11 0) 12 (-1)) 13 ((upd (upd (upd (upd (upd (upd (upd (upd g 4 0) 6 0) 7 1) 8 (-1)) 9 (-1)) 10 0) 11 0) 12 (-1)) 3)) 18 ((upd (upd (upd (upd (upd (upd (upd (upd (upd g 4 0) 6 0) 7 1) 8 (-1)) 9 (-1)) 10 0) 11 0) 12 (-1)) 13 ((upd (upd (upd (upd (upd (upd (upd (upd g 4 0) 6 0) 7 1) 8 (-1)) 9 (-1)) 10 0) 11 0) 12 (-1)) 3)) 13)) 13)) 0) hY_X9_worth mm_X9_58 ms_X9_worth ⟨(Nat.le_of_ble_eq_true rfl), (Nat.le_of_ble_eq_true rfl)⟩ rfl hl.1 rfl (Nat.le_of_ble_eq_true rfl) dX9_opens_135 ⟨(Nat.le_of_ble_eq_true rfl), (Nat.le_of_ble_eq_true rfl)⟩) (kx_no rfl) (fun r212 u211 H locs hp210 G => ?_)
    obtain ⟨rfl, eu211⟩ := hp210
    rw [eu211] at G
    refine lv_goto (tgt := 142) hx hb dX9_opens_138 (by decide) ?_
    refine g_iast C0 G k30 0 rfl (by unfold vp_in; decide) dX9_opens_142 (fun H locs f213 hf213 G => ?_)
    have k214 : f213 v = some (.inl (cy 0, 6441, .inl (upd (upd (upd (upd (upd (upd (upd (upd (upd (upd (upd g 4 0) 6 0) 7 1) 8 (-1)) 9 (-1)) 10 0) 11 0) 12 (-1)) 13 ((upd (upd (upd (upd (upd (upd (upd (upd g 4 0) 6 0) 7 1) 8 (-1)) 9 (-1)) 10 0) 11 0) 12 (-1)) 3)) 18 ((upd (upd (upd (upd (upd (upd (upd (upd (upd g 4 0) 6 0) 7 1) 8 (-1)) 9 (-1)) 10 0) 11 0) 12 (-1)) 13 ((upd (upd (upd (upd (upd (upd (upd (upd g 4 0) 6 0) 7 1) 8 (-1)) 9 (-1)) 10 0) 11 0) 12 (-1)) 3)) 13)) 14 ((10 - 0) * (240 * (6 * ((upd (upd (upd (upd (upd (upd (upd (upd (upd (upd g 4 0) 6 0) 7 1) 8 (-1)) 9 (-1)) 10 0) 11 0) 12 (-1)) 13 ((upd (upd (upd (upd (upd (upd (upd (upd g 4 0) 6 0) 7 1) 8 (-1)) 9 (-1)) 10 0) 11 0) 12 (-1)) 3)) 18 ((upd (upd (upd (upd (upd (upd (upd (upd (upd g 4 0) 6 0) 7 1) 8 (-1)) 9 (-1)) 10 0) 11 0) 12 (-1)) 13 ((upd (upd (upd (upd (upd (upd (upd (upd g 4 0) 6 0) 7 1) 8 (-1)) 9 (-1)) 10 0) 11 0) 12 (-1)) 3)) 13)) 13)) - (6 * ((upd (upd (upd (upd (upd (upd (upd (upd (upd (upd g 4 0) 6 0) 7 1) 8 (-1)) 9 (-1)) 10 0) 11 0) 12 (-1)) 13 ((upd (upd (upd (upd (upd (upd (upd (upd g 4 0) 6 0) 7 1) 8 (-1)) 9 (-1)) 10 0) 11 0) 12 (-1)) 3)) 18 ((upd (upd (upd (upd (upd (upd (upd (upd (upd g 4 0) 6 0) 7 1) 8 (-1)) 9 (-1)) 10 0) 11 0) 12 (-1)) 13 ((upd (upd (upd (upd (upd (upd (upd (upd g 4 0) 6 0) 7 1) 8 (-1)) 9 (-1)) 10 0) 11 0) 12 (-1)) 3)) 13)) 13)) * (6 * ((upd (upd (upd (upd (upd (upd (upd (upd (upd (upd g 4 0) 6 0) 7 1) 8 (-1)) 9 (-1)) 10 0) 11 0) 12 (-1)) 13 ((upd (upd (upd (upd (upd (upd (upd (upd g 4 0) 6 0) 7 1) 8 (-1)) 9 (-1)) 10 0) 11 0) 12 (-1)) 3)) 18 ((upd (upd (upd (upd (upd (upd (upd (upd (upd g 4 0) 6 0) 7 1) 8 (-1)) 9 (-1)) 10 0) 11 0) 12 (-1)) 13 ((upd (upd (upd (upd (upd (upd (upd (upd g 4 0) 6 0) 7 1) 8 (-1)) 9 (-1)) 10 0) 11 0) 12 (-1)) 3)) 13)) 13))))))) := hus hf213
    refine lv_aload_n hx hb dX9_opens_143 rfl (lv_at hl 0 rfl) ?_
    have k215 : f213 m = some (.inr (11, [.int c_th, .int c_re, .ref v, .ref im, .ref kp, .ref pa, .ref de, .ref ide, .int c_un, .int c_hi, .ref tx, .int c_tn, .int c_fa, .int c_rf, .ref pt, .int c_ps, .int c_pl, .int c_to, .ref so, .ref mo, .ref wh, .ref pf])) := hup hf213 (hne k31 k30 (by intro q; cases q)) k31
    refine g_get C0 G k215 rfl hiX9 2 (by decide) mf_X9_9 rfl dX9_opens_144 ?_
    refine lv_iload_n hx hb dX9_opens_147 rfl (lv_at hl 1 rfl) ?_
    refine lv_bipush (v := 9) hx hb dX9_opens_148 (by decide) ?_
    refine g_cI C0 G (g_runS C0 G (rest := [.ref v]) (k_X9_at hfl 0 9) hY_X9_at mm_X9_62 ms_X9_at ⟨(Nat.le_of_ble_eq_true rfl), (Nat.le_of_ble_eq_true rfl)⟩ rfl hl.1 rfl (Nat.le_of_ble_eq_true rfl) dX9_opens_150 ⟨(Nat.le_of_ble_eq_true rfl), (Nat.le_of_ble_eq_true rfl)⟩) (kx_no rfl) (fun r218 u217 H locs hp216 G => ?_)
    obtain ⟨rfl, eu217⟩ := hp216
    rw [eu217] at G
    refine lv_topv (v := 34) (by decide) ?_
    refine lv_aload_n hx hb dX9_opens_153 rfl (lv_at hl 0 rfl) ?_
    refine g_get C0 G k215 rfl hiX9 2 (by decide) mf_X9_9 rfl dX9_opens_154 ?_
    refine lv_bipush (v := 22) hx hb dX9_opens_157 (by decide) ?_
    refine g_iald C0 G k214 0 rfl (by unfold vp_in; decide) dX9_opens_159 ?_
    refine lv_topv (v := 0) (by first | exact h22 | simp [upd, h22]) ?_
    refine g_iast C0 G k214 0 rfl (by unfold vp_in; decide) dX9_opens_160 (fun H locs f219 hf219 G => ?_)
    have k220 : f219 v = some (.inl (cy 0, 6441, .inl (upd (upd (upd (upd (upd (upd (upd (upd (upd (upd (upd (upd g 4 0) 6 0) 7 1) 8 (-1)) 9 (-1)) 10 0) 11 0) 12 (-1)) 13 ((upd (upd (upd (upd (upd (upd (upd (upd g 4 0) 6 0) 7 1) 8 (-1)) 9 (-1)) 10 0) 11 0) 12 (-1)) 3)) 18 ((upd (upd (upd (upd (upd (upd (upd (upd (upd g 4 0) 6 0) 7 1) 8 (-1)) 9 (-1)) 10 0) 11 0) 12 (-1)) 13 ((upd (upd (upd (upd (upd (upd (upd (upd g 4 0) 6 0) 7 1) 8 (-1)) 9 (-1)) 10 0) 11 0) 12 (-1)) 3)) 13)) 14 ((10 - 0) * (240 * (6 * ((upd (upd (upd (upd (upd (upd (upd (upd (upd (upd g 4 0) 6 0) 7 1) 8 (-1)) 9 (-1)) 10 0) 11 0) 12 (-1)) 13 ((upd (upd (upd (upd (upd (upd (upd (upd g 4 0) 6 0) 7 1) 8 (-1)) 9 (-1)) 10 0) 11 0) 12 (-1)) 3)) 18 ((upd (upd (upd (upd (upd (upd (upd (upd (upd g 4 0) 6 0) 7 1) 8 (-1)) 9 (-1)) 10 0) 11 0) 12 (-1)) 13 ((upd (upd (upd (upd (upd (upd (upd (upd g 4 0) 6 0) 7 1) 8 (-1)) 9 (-1)) 10 0) 11 0) 12 (-1)) 3)) 13)) 13)) - (6 * ((upd (upd (upd (upd (upd (upd (upd (upd (upd (upd g 4 0) 6 0) 7 1) 8 (-1)) 9 (-1)) 10 0) 11 0) 12 (-1)) 13 ((upd (upd (upd (upd (upd (upd (upd (upd g 4 0) 6 0) 7 1) 8 (-1)) 9 (-1)) 10 0) 11 0) 12 (-1)) 3)) 18 ((upd (upd (upd (upd (upd (upd (upd (upd (upd g 4 0) 6 0) 7 1) 8 (-1)) 9 (-1)) 10 0) 11 0) 12 (-1)) 13 ((upd (upd (upd (upd (upd (upd (upd (upd g 4 0) 6 0) 7 1) 8 (-1)) 9 (-1)) 10 0) 11 0) 12 (-1)) 3)) 13)) 13)) * (6 * ((upd (upd (upd (upd (upd (upd (upd (upd (upd (upd g 4 0) 6 0) 7 1) 8 (-1)) 9 (-1)) 10 0) 11 0) 12 (-1)) 13 ((upd (upd (upd (upd (upd (upd (upd (upd g 4 0) 6 0) 7 1) 8 (-1)) 9 (-1)) 10 0) 11 0) 12 (-1)) 3)) 18 ((upd (upd (upd (upd (upd (upd (upd (upd (upd g 4 0) 6 0) 7 1) 8 (-1)) 9 (-1)) 10 0) 11 0) 12 (-1)) 13 ((upd (upd (upd (upd (upd (upd (upd (upd g 4 0) 6 0) 7 1) 8 (-1)) 9 (-1)) 10 0) 11 0) 12 (-1)) 3)) 13)) 13))))) 34 0))) := hus hf219
    refine lv_iconst (v := 0) hx hb dX9_opens_161 (by decide) ?_
    refine lv_istore_n (lv' := [(2, .int 0), (0, .ref m), (1, .int 0)]) hx hb dX9_opens_162 rfl hl (by decide) rfl (fun ls hl => ?_)
    refine lv_iload_n hx hb dX9_opens_163 rfl (lv_at hl 0 rfl) ?_
    refine lv_bipush (v := 11) hx hb dX9_opens_164 (by decide) ?_
    refine lv_icmp_ge (tgt := 209) hx hb dX9_opens_166 (by decide) (fun c221 => absurd c221 (by decide)) (fun _ => ?_)
    refine lv_aload_n hx hb dX9_opens_169 rfl (lv_at hl 1 rfl) ?_
    have k222 : f219 m = some (.inr (11, [.int c_th, .int c_re, .ref v, .ref im, .ref kp, .ref pa, .ref de, .ref ide, .int c_un, .int c_hi, .ref tx, .int c_tn, .int c_fa, .int c_rf, .ref pt, .int c_ps, .int c_pl, .int c_to, .ref so, .ref mo, .ref wh, .ref pf])) := hup hf219 (hne k215 k214 (by intro q; cases q)) k215
    refine g_get C0 G k222 rfl hiX9 2 (by decide) mf_X9_9 rfl dX9_opens_170 ?_
    refine lv_iload_n hx hb dX9_opens_173 rfl (lv_at hl 2 rfl) ?_
    refine lv_iload_n hx hb dX9_opens_174 rfl (lv_at hl 0 rfl) ?_
    refine lv_iconst (v := 4) hx hb dX9_opens_175 (by decide) ?_
    refine g_cI C0 G (g_runS C0 G (rest := [.ref v]) (k_X9_batterAt hfl 0 0 4) hY_X9_batterAt mm_X9_65 ms_X9_batterAt ⟨(Nat.le_of_ble_eq_true rfl), (Nat.le_of_ble_eq_true rfl)⟩ rfl hl.1 rfl (Nat.le_of_ble_eq_true rfl) dX9_opens_176 ⟨(Nat.le_of_ble_eq_true rfl), (Nat.le_of_ble_eq_true rfl)⟩) (kx_no rfl) (fun r225 u224 H locs hp223 G => ?_)
    obtain ⟨rfl, eu224⟩ := hp223
    rw [eu224] at G
    refine lv_topv (v := 73) (by decide) ?_
    refine lv_iload_n hx hb dX9_opens_179 rfl (lv_at hl 0 rfl) ?_
    refine lv_iconst (v := 2) hx hb dX9_opens_180 (by decide) ?_
    refine lv_icmp_ge (tgt := 188) hx hb dX9_opens_181 (by decide) (fun c226 => absurd c226 (by decide)) (fun _ => ?_)
    refine lv_iconst (v := (-1)) hx hb dX9_opens_184 (by decide) ?_
    refine lv_goto (tgt := 190) hx hb dX9_opens_185 (by decide) ?_
    refine g_iast C0 G k220 0 rfl (by unfold vp_in; decide) dX9_opens_190 (fun H locs f227 hf227 G => ?_)
    have k228 : f227 v = some (.inl (cy 0, 6441, .inl (upd (upd (upd (upd (upd (upd (upd (upd (upd (upd (upd (upd (upd g 4 0) 6 0) 7 1) 8 (-1)) 9 (-1)) 10 0) 11 0) 12 (-1)) 13 ((upd (upd (upd (upd (upd (upd (upd (upd g 4 0) 6 0) 7 1) 8 (-1)) 9 (-1)) 10 0) 11 0) 12 (-1)) 3)) 18 ((upd (upd (upd (upd (upd (upd (upd (upd (upd g 4 0) 6 0) 7 1) 8 (-1)) 9 (-1)) 10 0) 11 0) 12 (-1)) 13 ((upd (upd (upd (upd (upd (upd (upd (upd g 4 0) 6 0) 7 1) 8 (-1)) 9 (-1)) 10 0) 11 0) 12 (-1)) 3)) 13)) 14 ((10 - 0) * (240 * (6 * ((upd (upd (upd (upd (upd (upd (upd (upd (upd (upd g 4 0) 6 0) 7 1) 8 (-1)) 9 (-1)) 10 0) 11 0) 12 (-1)) 13 ((upd (upd (upd (upd (upd (upd (upd (upd g 4 0) 6 0) 7 1) 8 (-1)) 9 (-1)) 10 0) 11 0) 12 (-1)) 3)) 18 ((upd (upd (upd (upd (upd (upd (upd (upd (upd g 4 0) 6 0) 7 1) 8 (-1)) 9 (-1)) 10 0) 11 0) 12 (-1)) 13 ((upd (upd (upd (upd (upd (upd (upd (upd g 4 0) 6 0) 7 1) 8 (-1)) 9 (-1)) 10 0) 11 0) 12 (-1)) 3)) 13)) 13)) - (6 * ((upd (upd (upd (upd (upd (upd (upd (upd (upd (upd g 4 0) 6 0) 7 1) 8 (-1)) 9 (-1)) 10 0) 11 0) 12 (-1)) 13 ((upd (upd (upd (upd (upd (upd (upd (upd g 4 0) 6 0) 7 1) 8 (-1)) 9 (-1)) 10 0) 11 0) 12 (-1)) 3)) 18 ((upd (upd (upd (upd (upd (upd (upd (upd (upd g 4 0) 6 0) 7 1) 8 (-1)) 9 (-1)) 10 0) 11 0) 12 (-1)) 13 ((upd (upd (upd (upd (upd (upd (upd (upd g 4 0) 6 0) 7 1) 8 (-1)) 9 (-1)) 10 0) 11 0) 12 (-1)) 3)) 13)) 13)) * (6 * ((upd (upd (upd (upd (upd (upd (upd (upd (upd (upd g 4 0) 6 0) 7 1) 8 (-1)) 9 (-1)) 10 0) 11 0) 12 (-1)) 13 ((upd (upd (upd (upd (upd (upd (upd (upd g 4 0) 6 0) 7 1) 8 (-1)) 9 (-1)) 10 0) 11 0) 12 (-1)) 3)) 18 ((upd (upd (upd (upd (upd (upd (upd (upd (upd g 4 0) 6 0) 7 1) 8 (-1)) 9 (-1)) 10 0) 11 0) 12 (-1)) 13 ((upd (upd (upd (upd (upd (upd (upd (upd g 4 0) 6 0) 7 1) 8 (-1)) 9 (-1)) 10 0) 11 0) 12 (-1)) 3)) 13)) 13))))) 34 0) 73 (-1)))) := hus hf227
    refine lv_aload_n hx hb dX9_opens_191 rfl (lv_at hl 1 rfl) ?_
    have k229 : f227 m = some (.inr (11, [.int c_th, .int c_re, .ref v, .ref im, .ref kp, .ref pa, .ref de, .ref ide, .int c_un, .int c_hi, .ref tx, .int c_tn, .int c_fa, .int c_rf, .ref pt, .int c_ps, .int c_pl, .int c_to, .ref so, .ref mo, .ref wh, .ref pf])) := hup hf227 (hne k222 k220 (by intro q; cases q)) k222
    refine g_get C0 G k229 rfl hiX9 2 (by decide) mf_X9_9 rfl dX9_opens_192 ?_
    refine lv_iload_n hx hb dX9_opens_195 rfl (lv_at hl 2 rfl) ?_
    refine lv_iload_n hx hb dX9_opens_196 rfl (lv_at hl 0 rfl) ?_
    refine lv_iconst (v := 5) hx hb dX9_opens_197 (by decide) ?_
    refine g_cI C0 G (g_runS C0 G (rest := [.ref v]) (k_X9_batterAt hfl 0 0 5) hY_X9_batterAt mm_X9_65 ms_X9_batterAt ⟨(Nat.le_of_ble_eq_true rfl), (Nat.le_of_ble_eq_true rfl)⟩ rfl hl.1 rfl (Nat.le_of_ble_eq_true rfl) dX9_opens_198 ⟨(Nat.le_of_ble_eq_true rfl), (Nat.le_of_ble_eq_true rfl)⟩) (kx_no rfl) (fun r232 u231 H locs hp230 G => ?_)
    obtain ⟨rfl, eu231⟩ := hp230
    rw [eu231] at G
    refine lv_topv (v := 74) (by decide) ?_
    refine lv_iconst (v := (-1)) hx hb dX9_opens_201 (by decide) ?_
    refine g_iast C0 G k228 0 rfl (by unfold vp_in; decide) dX9_opens_202 (fun H locs f233 hf233 G => ?_)
    have k234 : f233 v = some (.inl (cy 0, 6441, .inl (upd (upd (upd (upd (upd (upd (upd (upd (upd (upd (upd (upd (upd (upd g 4 0) 6 0) 7 1) 8 (-1)) 9 (-1)) 10 0) 11 0) 12 (-1)) 13 ((upd (upd (upd (upd (upd (upd (upd (upd g 4 0) 6 0) 7 1) 8 (-1)) 9 (-1)) 10 0) 11 0) 12 (-1)) 3)) 18 ((upd (upd (upd (upd (upd (upd (upd (upd (upd g 4 0) 6 0) 7 1) 8 (-1)) 9 (-1)) 10 0) 11 0) 12 (-1)) 13 ((upd (upd (upd (upd (upd (upd (upd (upd g 4 0) 6 0) 7 1) 8 (-1)) 9 (-1)) 10 0) 11 0) 12 (-1)) 3)) 13)) 14 ((10 - 0) * (240 * (6 * ((upd (upd (upd (upd (upd (upd (upd (upd (upd (upd g 4 0) 6 0) 7 1) 8 (-1)) 9 (-1)) 10 0) 11 0) 12 (-1)) 13 ((upd (upd (upd (upd (upd (upd (upd (upd g 4 0) 6 0) 7 1) 8 (-1)) 9 (-1)) 10 0) 11 0) 12 (-1)) 3)) 18 ((upd (upd (upd (upd (upd (upd (upd (upd (upd g 4 0) 6 0) 7 1) 8 (-1)) 9 (-1)) 10 0) 11 0) 12 (-1)) 13 ((upd (upd (upd (upd (upd (upd (upd (upd g 4 0) 6 0) 7 1) 8 (-1)) 9 (-1)) 10 0) 11 0) 12 (-1)) 3)) 13)) 13)) - (6 * ((upd (upd (upd (upd (upd (upd (upd (upd (upd (upd g 4 0) 6 0) 7 1) 8 (-1)) 9 (-1)) 10 0) 11 0) 12 (-1)) 13 ((upd (upd (upd (upd (upd (upd (upd (upd g 4 0) 6 0) 7 1) 8 (-1)) 9 (-1)) 10 0) 11 0) 12 (-1)) 3)) 18 ((upd (upd (upd (upd (upd (upd (upd (upd (upd g 4 0) 6 0) 7 1) 8 (-1)) 9 (-1)) 10 0) 11 0) 12 (-1)) 13 ((upd (upd (upd (upd (upd (upd (upd (upd g 4 0) 6 0) 7 1) 8 (-1)) 9 (-1)) 10 0) 11 0) 12 (-1)) 3)) 13)) 13)) * (6 * ((upd (upd (upd (upd (upd (upd (upd (upd (upd (upd g 4 0) 6 0) 7 1) 8 (-1)) 9 (-1)) 10 0) 11 0) 12 (-1)) 13 ((upd (upd (upd (upd (upd (upd (upd (upd g 4 0) 6 0) 7 1) 8 (-1)) 9 (-1)) 10 0) 11 0) 12 (-1)) 3)) 18 ((upd (upd (upd (upd (upd (upd (upd (upd (upd g 4 0) 6 0) 7 1) 8 (-1)) 9 (-1)) 10 0) 11 0) 12 (-1)) 13 ((upd (upd (upd (upd (upd (upd (upd (upd g 4 0) 6 0) 7 1) 8 (-1)) 9 (-1)) 10 0) 11 0) 12 (-1)) 3)) 13)) 13))))) 34 0) 73 (-1)) 74 (-1)))) := hus hf233
    refine lv_iinc (v := 1) (lv' := [(2, .int 1), (0, .ref m), (1, .int 0)]) hx hb dX9_opens_203 hl (k := 0) rfl (by exact (by decide)) (by decide) rfl (fun ls hl => ?_)
    refine lv_goto (tgt := 163) hx hb dX9_opens_206 (by decide) ?_
    refine lv_iload_n hx hb dX9_opens_163 rfl (lv_at hl 0 rfl) ?_
    refine lv_bipush (v := 11) hx hb dX9_opens_164 (by decide) ?_
    refine lv_icmp_ge (tgt := 209) hx hb dX9_opens_166 (by decide) (fun c236 => absurd c236 (by decide)) (fun _ => ?_)
    refine lv_aload_n hx hb dX9_opens_169 rfl (lv_at hl 1 rfl) ?_
    have k237 : f233 m = some (.inr (11, [.int c_th, .int c_re, .ref v, .ref im, .ref kp, .ref pa, .ref de, .ref ide, .int c_un, .int c_hi, .ref tx, .int c_tn, .int c_fa, .int c_rf, .ref pt, .int c_ps, .int c_pl, .int c_to, .ref so, .ref mo, .ref wh, .ref pf])) := hup hf233 (hne k229 k228 (by intro q; cases q)) k229
    refine g_get C0 G k237 rfl hiX9 2 (by decide) mf_X9_9 rfl dX9_opens_170 ?_
    refine lv_iload_n hx hb dX9_opens_173 rfl (lv_at hl 2 rfl) ?_
    refine lv_iload_n hx hb dX9_opens_174 rfl (lv_at hl 0 rfl) ?_
    refine lv_iconst (v := 4) hx hb dX9_opens_175 (by decide) ?_
    refine g_cI C0 G (g_runS C0 G (rest := [.ref v]) (k_X9_batterAt hfl 0 1 4) hY_X9_batterAt mm_X9_65 ms_X9_batterAt ⟨(Nat.le_of_ble_eq_true rfl), (Nat.le_of_ble_eq_true rfl)⟩ rfl hl.1 rfl (Nat.le_of_ble_eq_true rfl) dX9_opens_176 ⟨(Nat.le_of_ble_eq_true rfl), (Nat.le_of_ble_eq_true rfl)⟩) (kx_no rfl) (fun r240 u239 H locs hp238 G => ?_)
    obtain ⟨rfl, eu239⟩ := hp238
    rw [eu239] at G
    refine lv_topv (v := 79) (by decide) ?_
    refine lv_iload_n hx hb dX9_opens_179 rfl (lv_at hl 0 rfl) ?_
    refine lv_iconst (v := 2) hx hb dX9_opens_180 (by decide) ?_
    refine lv_icmp_ge (tgt := 188) hx hb dX9_opens_181 (by decide) (fun c241 => absurd c241 (by decide)) (fun _ => ?_)
    refine lv_iconst (v := (-1)) hx hb dX9_opens_184 (by decide) ?_
    refine lv_goto (tgt := 190) hx hb dX9_opens_185 (by decide) ?_
    refine g_iast C0 G k234 0 rfl (by unfold vp_in; decide) dX9_opens_190 (fun H locs f242 hf242 G => ?_)
    have k243 : f242 v = some (.inl (cy 0, 6441, .inl (upd (upd (upd (upd (upd (upd (upd (upd (upd (upd (upd (upd (upd (upd (upd g 4 0) 6 0) 7 1) 8 (-1)) 9 (-1)) 10 0) 11 0) 12 (-1)) 13 ((upd (upd (upd (upd (upd (upd (upd (upd g 4 0) 6 0) 7 1) 8 (-1)) 9 (-1)) 10 0) 11 0) 12 (-1)) 3)) 18 ((upd (upd (upd (upd (upd (upd (upd (upd (upd g 4 0) 6 0) 7 1) 8 (-1)) 9 (-1)) 10 0) 11 0) 12 (-1)) 13 ((upd (upd (upd (upd (upd (upd (upd (upd g 4 0) 6 0) 7 1) 8 (-1)) 9 (-1)) 10 0) 11 0) 12 (-1)) 3)) 13)) 14 ((10 - 0) * (240 * (6 * ((upd (upd (upd (upd (upd (upd (upd (upd (upd (upd g 4 0) 6 0) 7 1) 8 (-1)) 9 (-1)) 10 0) 11 0) 12 (-1)) 13 ((upd (upd (upd (upd (upd (upd (upd (upd g 4 0) 6 0) 7 1) 8 (-1)) 9 (-1)) 10 0) 11 0) 12 (-1)) 3)) 18 ((upd (upd (upd (upd (upd (upd (upd (upd (upd g 4 0) 6 0) 7 1) 8 (-1)) 9 (-1)) 10 0) 11 0) 12 (-1)) 13 ((upd (upd (upd (upd (upd (upd (upd (upd g 4 0) 6 0) 7 1) 8 (-1)) 9 (-1)) 10 0) 11 0) 12 (-1)) 3)) 13)) 13)) - (6 * ((upd (upd (upd (upd (upd (upd (upd (upd (upd (upd g 4 0) 6 0) 7 1) 8 (-1)) 9 (-1)) 10 0) 11 0) 12 (-1)) 13 ((upd (upd (upd (upd (upd (upd (upd (upd g 4 0) 6 0) 7 1) 8 (-1)) 9 (-1)) 10 0) 11 0) 12 (-1)) 3)) 18 ((upd (upd (upd (upd (upd (upd (upd (upd (upd g 4 0) 6 0) 7 1) 8 (-1)) 9 (-1)) 10 0) 11 0) 12 (-1)) 13 ((upd (upd (upd (upd (upd (upd (upd (upd g 4 0) 6 0) 7 1) 8 (-1)) 9 (-1)) 10 0) 11 0) 12 (-1)) 3)) 13)) 13)) * (6 * ((upd (upd (upd (upd (upd (upd (upd (upd (upd (upd g 4 0) 6 0) 7 1) 8 (-1)) 9 (-1)) 10 0) 11 0) 12 (-1)) 13 ((upd (upd (upd (upd (upd (upd (upd (upd g 4 0) 6 0) 7 1) 8 (-1)) 9 (-1)) 10 0) 11 0) 12 (-1)) 3)) 18 ((upd (upd (upd (upd (upd (upd (upd (upd (upd g 4 0) 6 0) 7 1) 8 (-1)) 9 (-1)) 10 0) 11 0) 12 (-1)) 13 ((upd (upd (upd (upd (upd (upd (upd (upd g 4 0) 6 0) 7 1) 8 (-1)) 9 (-1)) 10 0) 11 0) 12 (-1)) 3)) 13)) 13))))) 34 0) 73 (-1)) 74 (-1)) 79 (-1)))) := hus hf242
    refine lv_aload_n hx hb dX9_opens_191 rfl (lv_at hl 1 rfl) ?_
    have k244 : f242 m = some (.inr (11, [.int c_th, .int c_re, .ref v, .ref im, .ref kp, .ref pa, .ref de, .ref ide, .int c_un, .int c_hi, .ref tx, .int c_tn, .int c_fa, .int c_rf, .ref pt, .int c_ps, .int c_pl, .int c_to, .ref so, .ref mo, .ref wh, .ref pf])) := hup hf242 (hne k237 k234 (by intro q; cases q)) k237
    refine g_get C0 G k244 rfl hiX9 2 (by decide) mf_X9_9 rfl dX9_opens_192 ?_
    refine lv_iload_n hx hb dX9_opens_195 rfl (lv_at hl 2 rfl) ?_
    refine lv_iload_n hx hb dX9_opens_196 rfl (lv_at hl 0 rfl) ?_
    refine lv_iconst (v := 5) hx hb dX9_opens_197 (by decide) ?_
    refine g_cI C0 G (g_runS C0 G (rest := [.ref v]) (k_X9_batterAt hfl 0 1 5) hY_X9_batterAt mm_X9_65 ms_X9_batterAt ⟨(Nat.le_of_ble_eq_true rfl), (Nat.le_of_ble_eq_true rfl)⟩ rfl hl.1 rfl (Nat.le_of_ble_eq_true rfl) dX9_opens_198 ⟨(Nat.le_of_ble_eq_true rfl), (Nat.le_of_ble_eq_true rfl)⟩) (kx_no rfl) (fun r247 u246 H locs hp245 G => ?_)
    obtain ⟨rfl, eu246⟩ := hp245
    rw [eu246] at G
    refine lv_topv (v := 80) (by decide) ?_
    refine lv_iconst (v := (-1)) hx hb dX9_opens_201 (by decide) ?_
    refine g_iast C0 G k243 0 rfl (by unfold vp_in; decide) dX9_opens_202 (fun H locs f248 hf248 G => ?_)
    have k249 : f248 v = some (.inl (cy 0, 6441, .inl (upd (upd (upd (upd (upd (upd (upd (upd (upd (upd (upd (upd (upd (upd (upd (upd g 4 0) 6 0) 7 1) 8 (-1)) 9 (-1)) 10 0) 11 0) 12 (-1)) 13 ((upd (upd (upd (upd (upd (upd (upd (upd g 4 0) 6 0) 7 1) 8 (-1)) 9 (-1)) 10 0) 11 0) 12 (-1)) 3)) 18 ((upd (upd (upd (upd (upd (upd (upd (upd (upd g 4 0) 6 0) 7 1) 8 (-1)) 9 (-1)) 10 0) 11 0) 12 (-1)) 13 ((upd (upd (upd (upd (upd (upd (upd (upd g 4 0) 6 0) 7 1) 8 (-1)) 9 (-1)) 10 0) 11 0) 12 (-1)) 3)) 13)) 14 ((10 - 0) * (240 * (6 * ((upd (upd (upd (upd (upd (upd (upd (upd (upd (upd g 4 0) 6 0) 7 1) 8 (-1)) 9 (-1)) 10 0) 11 0) 12 (-1)) 13 ((upd (upd (upd (upd (upd (upd (upd (upd g 4 0) 6 0) 7 1) 8 (-1)) 9 (-1)) 10 0) 11 0) 12 (-1)) 3)) 18 ((upd (upd (upd (upd (upd (upd (upd (upd (upd g 4 0) 6 0) 7 1) 8 (-1)) 9 (-1)) 10 0) 11 0) 12 (-1)) 13 ((upd (upd (upd (upd (upd (upd (upd (upd g 4 0) 6 0) 7 1) 8 (-1)) 9 (-1)) 10 0) 11 0) 12 (-1)) 3)) 13)) 13)) - (6 * ((upd (upd (upd (upd (upd (upd (upd (upd (upd (upd g 4 0) 6 0) 7 1) 8 (-1)) 9 (-1)) 10 0) 11 0) 12 (-1)) 13 ((upd (upd (upd (upd (upd (upd (upd (upd g 4 0) 6 0) 7 1) 8 (-1)) 9 (-1)) 10 0) 11 0) 12 (-1)) 3)) 18 ((upd (upd (upd (upd (upd (upd (upd (upd (upd g 4 0) 6 0) 7 1) 8 (-1)) 9 (-1)) 10 0) 11 0) 12 (-1)) 13 ((upd (upd (upd (upd (upd (upd (upd (upd g 4 0) 6 0) 7 1) 8 (-1)) 9 (-1)) 10 0) 11 0) 12 (-1)) 3)) 13)) 13)) * (6 * ((upd (upd (upd (upd (upd (upd (upd (upd (upd (upd g 4 0) 6 0) 7 1) 8 (-1)) 9 (-1)) 10 0) 11 0) 12 (-1)) 13 ((upd (upd (upd (upd (upd (upd (upd (upd g 4 0) 6 0) 7 1) 8 (-1)) 9 (-1)) 10 0) 11 0) 12 (-1)) 3)) 18 ((upd (upd (upd (upd (upd (upd (upd (upd (upd g 4 0) 6 0) 7 1) 8 (-1)) 9 (-1)) 10 0) 11 0) 12 (-1)) 13 ((upd (upd (upd (upd (upd (upd (upd (upd g 4 0) 6 0) 7 1) 8 (-1)) 9 (-1)) 10 0) 11 0) 12 (-1)) 3)) 13)) 13))))) 34 0) 73 (-1)) 74 (-1)) 79 (-1)) 80 (-1)))) := hus hf248
    refine lv_iinc (v := 2) (lv' := [(2, .int 2), (0, .ref m), (1, .int 0)]) hx hb dX9_opens_203 hl (k := 0) rfl (by exact (by decide)) (by decide) rfl (fun ls hl => ?_)
    refine lv_goto (tgt := 163) hx hb dX9_opens_206 (by decide) ?_
    refine lv_iload_n hx hb dX9_opens_163 rfl (lv_at hl 0 rfl) ?_
    refine lv_bipush (v := 11) hx hb dX9_opens_164 (by decide) ?_
    refine lv_icmp_ge (tgt := 209) hx hb dX9_opens_166 (by decide) (fun c251 => absurd c251 (by decide)) (fun _ => ?_)
    refine lv_aload_n hx hb dX9_opens_169 rfl (lv_at hl 1 rfl) ?_
    have k252 : f248 m = some (.inr (11, [.int c_th, .int c_re, .ref v, .ref im, .ref kp, .ref pa, .ref de, .ref ide, .int c_un, .int c_hi, .ref tx, .int c_tn, .int c_fa, .int c_rf, .ref pt, .int c_ps, .int c_pl, .int c_to, .ref so, .ref mo, .ref wh, .ref pf])) := hup hf248 (hne k244 k243 (by intro q; cases q)) k244
    refine g_get C0 G k252 rfl hiX9 2 (by decide) mf_X9_9 rfl dX9_opens_170 ?_
    refine lv_iload_n hx hb dX9_opens_173 rfl (lv_at hl 2 rfl) ?_
    refine lv_iload_n hx hb dX9_opens_174 rfl (lv_at hl 0 rfl) ?_
    refine lv_iconst (v := 4) hx hb dX9_opens_175 (by decide) ?_
    refine g_cI C0 G (g_runS C0 G (rest := [.ref v]) (k_X9_batterAt hfl 0 2 4) hY_X9_batterAt mm_X9_65 ms_X9_batterAt ⟨(Nat.le_of_ble_eq_true rfl), (Nat.le_of_ble_eq_true rfl)⟩ rfl hl.1 rfl (Nat.le_of_ble_eq_true rfl) dX9_opens_176 ⟨(Nat.le_of_ble_eq_true rfl), (Nat.le_of_ble_eq_true rfl)⟩) (kx_no rfl) (fun r255 u254 H locs hp253 G => ?_)
    obtain ⟨rfl, eu254⟩ := hp253
    rw [eu254] at G
    refine lv_topv (v := 85) (by decide) ?_
    refine lv_iload_n hx hb dX9_opens_179 rfl (lv_at hl 0 rfl) ?_
    refine lv_iconst (v := 2) hx hb dX9_opens_180 (by decide) ?_
    refine lv_icmp_ge (tgt := 188) hx hb dX9_opens_181 (by decide) (fun _ => ?_) (fun c256 => absurd (by decide) c256)
    refine lv_bipush (v := (-2)) hx hb dX9_opens_188 (by decide) ?_
    refine g_iast C0 G k249 0 rfl (by unfold vp_in; decide) dX9_opens_190 (fun H locs f257 hf257 G => ?_)
    have k258 : f257 v = some (.inl (cy 0, 6441, .inl (upd (upd (upd (upd (upd (upd (upd (upd (upd (upd (upd (upd (upd (upd (upd (upd (upd g 4 0) 6 0) 7 1) 8 (-1)) 9 (-1)) 10 0) 11 0) 12 (-1)) 13 ((upd (upd (upd (upd (upd (upd (upd (upd g 4 0) 6 0) 7 1) 8 (-1)) 9 (-1)) 10 0) 11 0) 12 (-1)) 3)) 18 ((upd (upd (upd (upd (upd (upd (upd (upd (upd g 4 0) 6 0) 7 1) 8 (-1)) 9 (-1)) 10 0) 11 0) 12 (-1)) 13 ((upd (upd (upd (upd (upd (upd (upd (upd g 4 0) 6 0) 7 1) 8 (-1)) 9 (-1)) 10 0) 11 0) 12 (-1)) 3)) 13)) 14 ((10 - 0) * (240 * (6 * ((upd (upd (upd (upd (upd (upd (upd (upd (upd (upd g 4 0) 6 0) 7 1) 8 (-1)) 9 (-1)) 10 0) 11 0) 12 (-1)) 13 ((upd (upd (upd (upd (upd (upd (upd (upd g 4 0) 6 0) 7 1) 8 (-1)) 9 (-1)) 10 0) 11 0) 12 (-1)) 3)) 18 ((upd (upd (upd (upd (upd (upd (upd (upd (upd g 4 0) 6 0) 7 1) 8 (-1)) 9 (-1)) 10 0) 11 0) 12 (-1)) 13 ((upd (upd (upd (upd (upd (upd (upd (upd g 4 0) 6 0) 7 1) 8 (-1)) 9 (-1)) 10 0) 11 0) 12 (-1)) 3)) 13)) 13)) - (6 * ((upd (upd (upd (upd (upd (upd (upd (upd (upd (upd g 4 0) 6 0) 7 1) 8 (-1)) 9 (-1)) 10 0) 11 0) 12 (-1)) 13 ((upd (upd (upd (upd (upd (upd (upd (upd g 4 0) 6 0) 7 1) 8 (-1)) 9 (-1)) 10 0) 11 0) 12 (-1)) 3)) 18 ((upd (upd (upd (upd (upd (upd (upd (upd (upd g 4 0) 6 0) 7 1) 8 (-1)) 9 (-1)) 10 0) 11 0) 12 (-1)) 13 ((upd (upd (upd (upd (upd (upd (upd (upd g 4 0) 6 0) 7 1) 8 (-1)) 9 (-1)) 10 0) 11 0) 12 (-1)) 3)) 13)) 13)) * (6 * ((upd (upd (upd (upd (upd (upd (upd (upd (upd (upd g 4 0) 6 0) 7 1) 8 (-1)) 9 (-1)) 10 0) 11 0) 12 (-1)) 13 ((upd (upd (upd (upd (upd (upd (upd (upd g 4 0) 6 0) 7 1) 8 (-1)) 9 (-1)) 10 0) 11 0) 12 (-1)) 3)) 18 ((upd (upd (upd (upd (upd (upd (upd (upd (upd g 4 0) 6 0) 7 1) 8 (-1)) 9 (-1)) 10 0) 11 0) 12 (-1)) 13 ((upd (upd (upd (upd (upd (upd (upd (upd g 4 0) 6 0) 7 1) 8 (-1)) 9 (-1)) 10 0) 11 0) 12 (-1)) 3)) 13)) 13))))) 34 0) 73 (-1)) 74 (-1)) 79 (-1)) 80 (-1)) 85 (-2)))) := hus hf257
    refine lv_aload_n hx hb dX9_opens_191 rfl (lv_at hl 1 rfl) ?_
    have k259 : f257 m = some (.inr (11, [.int c_th, .int c_re, .ref v, .ref im, .ref kp, .ref pa, .ref de, .ref ide, .int c_un, .int c_hi, .ref tx, .int c_tn, .int c_fa, .int c_rf, .ref pt, .int c_ps, .int c_pl, .int c_to, .ref so, .ref mo, .ref wh, .ref pf])) := hup hf257 (hne k252 k249 (by intro q; cases q)) k252
    refine g_get C0 G k259 rfl hiX9 2 (by decide) mf_X9_9 rfl dX9_opens_192 ?_
    refine lv_iload_n hx hb dX9_opens_195 rfl (lv_at hl 2 rfl) ?_
    refine lv_iload_n hx hb dX9_opens_196 rfl (lv_at hl 0 rfl) ?_
    refine lv_iconst (v := 5) hx hb dX9_opens_197 (by decide) ?_
    refine g_cI C0 G (g_runS C0 G (rest := [.ref v]) (k_X9_batterAt hfl 0 2 5) hY_X9_batterAt mm_X9_65 ms_X9_batterAt ⟨(Nat.le_of_ble_eq_true rfl), (Nat.le_of_ble_eq_true rfl)⟩ rfl hl.1 rfl (Nat.le_of_ble_eq_true rfl) dX9_opens_198 ⟨(Nat.le_of_ble_eq_true rfl), (Nat.le_of_ble_eq_true rfl)⟩) (kx_no rfl) (fun r262 u261 H locs hp260 G => ?_)
    obtain ⟨rfl, eu261⟩ := hp260
    rw [eu261] at G
    refine lv_topv (v := 86) (by decide) ?_
    refine lv_iconst (v := (-1)) hx hb dX9_opens_201 (by decide) ?_
    refine g_iast C0 G k258 0 rfl (by unfold vp_in; decide) dX9_opens_202 (fun H locs f263 hf263 G => ?_)
    have k264 : f263 v = some (.inl (cy 0, 6441, .inl (upd (upd (upd (upd (upd (upd (upd (upd (upd (upd (upd (upd (upd (upd (upd (upd (upd (upd g 4 0) 6 0) 7 1) 8 (-1)) 9 (-1)) 10 0) 11 0) 12 (-1)) 13 ((upd (upd (upd (upd (upd (upd (upd (upd g 4 0) 6 0) 7 1) 8 (-1)) 9 (-1)) 10 0) 11 0) 12 (-1)) 3)) 18 ((upd (upd (upd (upd (upd (upd (upd (upd (upd g 4 0) 6 0) 7 1) 8 (-1)) 9 (-1)) 10 0) 11 0) 12 (-1)) 13 ((upd (upd (upd (upd (upd (upd (upd (upd g 4 0) 6 0) 7 1) 8 (-1)) 9 (-1)) 10 0) 11 0) 12 (-1)) 3)) 13)) 14 ((10 - 0) * (240 * (6 * ((upd (upd (upd (upd (upd (upd (upd (upd (upd (upd g 4 0) 6 0) 7 1) 8 (-1)) 9 (-1)) 10 0) 11 0) 12 (-1)) 13 ((upd (upd (upd (upd (upd (upd (upd (upd g 4 0) 6 0) 7 1) 8 (-1)) 9 (-1)) 10 0) 11 0) 12 (-1)) 3)) 18 ((upd (upd (upd (upd (upd (upd (upd (upd (upd g 4 0) 6 0) 7 1) 8 (-1)) 9 (-1)) 10 0) 11 0) 12 (-1)) 13 ((upd (upd (upd (upd (upd (upd (upd (upd g 4 0) 6 0) 7 1) 8 (-1)) 9 (-1)) 10 0) 11 0) 12 (-1)) 3)) 13)) 13)) - (6 * ((upd (upd (upd (upd (upd (upd (upd (upd (upd (upd g 4 0) 6 0) 7 1) 8 (-1)) 9 (-1)) 10 0) 11 0) 12 (-1)) 13 ((upd (upd (upd (upd (upd (upd (upd (upd g 4 0) 6 0) 7 1) 8 (-1)) 9 (-1)) 10 0) 11 0) 12 (-1)) 3)) 18 ((upd (upd (upd (upd (upd (upd (upd (upd (upd g 4 0) 6 0) 7 1) 8 (-1)) 9 (-1)) 10 0) 11 0) 12 (-1)) 13 ((upd (upd (upd (upd (upd (upd (upd (upd g 4 0) 6 0) 7 1) 8 (-1)) 9 (-1)) 10 0) 11 0) 12 (-1)) 3)) 13)) 13)) * (6 * ((upd (upd (upd (upd (upd (upd (upd (upd (upd (upd g 4 0) 6 0) 7 1) 8 (-1)) 9 (-1)) 10 0) 11 0) 12 (-1)) 13 ((upd (upd (upd (upd (upd (upd (upd (upd g 4 0) 6 0) 7 1) 8 (-1)) 9 (-1)) 10 0) 11 0) 12 (-1)) 3)) 18 ((upd (upd (upd (upd (upd (upd (upd (upd (upd g 4 0) 6 0) 7 1) 8 (-1)) 9 (-1)) 10 0) 11 0) 12 (-1)) 13 ((upd (upd (upd (upd (upd (upd (upd (upd g 4 0) 6 0) 7 1) 8 (-1)) 9 (-1)) 10 0) 11 0) 12 (-1)) 3)) 13)) 13))))) 34 0) 73 (-1)) 74 (-1)) 79 (-1)) 80 (-1)) 85 (-2)) 86 (-1)))) := hus hf263
    refine lv_iinc (v := 3) (lv' := [(2, .int 3), (0, .ref m), (1, .int 0)]) hx hb dX9_opens_203 hl (k := 0) rfl (by exact (by decide)) (by decide) rfl (fun ls hl => ?_)
    refine lv_goto (tgt := 163) hx hb dX9_opens_206 (by decide) ?_
    refine lv_iload_n hx hb dX9_opens_163 rfl (lv_at hl 0 rfl) ?_
    refine lv_bipush (v := 11) hx hb dX9_opens_164 (by decide) ?_
    refine lv_icmp_ge (tgt := 209) hx hb dX9_opens_166 (by decide) (fun c266 => absurd c266 (by decide)) (fun _ => ?_)
    refine lv_aload_n hx hb dX9_opens_169 rfl (lv_at hl 1 rfl) ?_
    have k267 : f263 m = some (.inr (11, [.int c_th, .int c_re, .ref v, .ref im, .ref kp, .ref pa, .ref de, .ref ide, .int c_un, .int c_hi, .ref tx, .int c_tn, .int c_fa, .int c_rf, .ref pt, .int c_ps, .int c_pl, .int c_to, .ref so, .ref mo, .ref wh, .ref pf])) := hup hf263 (hne k259 k258 (by intro q; cases q)) k259
    refine g_get C0 G k267 rfl hiX9 2 (by decide) mf_X9_9 rfl dX9_opens_170 ?_
    refine lv_iload_n hx hb dX9_opens_173 rfl (lv_at hl 2 rfl) ?_
    refine lv_iload_n hx hb dX9_opens_174 rfl (lv_at hl 0 rfl) ?_
    refine lv_iconst (v := 4) hx hb dX9_opens_175 (by decide) ?_
    refine g_cI C0 G (g_runS C0 G (rest := [.ref v]) (k_X9_batterAt hfl 0 3 4) hY_X9_batterAt mm_X9_65 ms_X9_batterAt ⟨(Nat.le_of_ble_eq_true rfl), (Nat.le_of_ble_eq_true rfl)⟩ rfl hl.1 rfl (Nat.le_of_ble_eq_true rfl) dX9_opens_176 ⟨(Nat.le_of_ble_eq_true rfl), (Nat.le_of_ble_eq_true rfl)⟩) (kx_no rfl) (fun r270 u269 H locs hp268 G => ?_)
    obtain ⟨rfl, eu269⟩ := hp268
    rw [eu269] at G
    refine lv_topv (v := 91) (by decide) ?_
    refine lv_iload_n hx hb dX9_opens_179 rfl (lv_at hl 0 rfl) ?_
    refine lv_iconst (v := 2) hx hb dX9_opens_180 (by decide) ?_
    refine lv_icmp_ge (tgt := 188) hx hb dX9_opens_181 (by decide) (fun _ => ?_) (fun c271 => absurd (by decide) c271)
    refine lv_bipush (v := (-2)) hx hb dX9_opens_188 (by decide) ?_
    refine g_iast C0 G k264 0 rfl (by unfold vp_in; decide) dX9_opens_190 (fun H locs f272 hf272 G => ?_)
    have k273 : f272 v = some (.inl (cy 0, 6441, .inl (upd (upd (upd (upd (upd (upd (upd (upd (upd (upd (upd (upd (upd (upd (upd (upd (upd (upd (upd g 4 0) 6 0) 7 1) 8 (-1)) 9 (-1)) 10 0) 11 0) 12 (-1)) 13 ((upd (upd (upd (upd (upd (upd (upd (upd g 4 0) 6 0) 7 1) 8 (-1)) 9 (-1)) 10 0) 11 0) 12 (-1)) 3)) 18 ((upd (upd (upd (upd (upd (upd (upd (upd (upd g 4 0) 6 0) 7 1) 8 (-1)) 9 (-1)) 10 0) 11 0) 12 (-1)) 13 ((upd (upd (upd (upd (upd (upd (upd (upd g 4 0) 6 0) 7 1) 8 (-1)) 9 (-1)) 10 0) 11 0) 12 (-1)) 3)) 13)) 14 ((10 - 0) * (240 * (6 * ((upd (upd (upd (upd (upd (upd (upd (upd (upd (upd g 4 0) 6 0) 7 1) 8 (-1)) 9 (-1)) 10 0) 11 0) 12 (-1)) 13 ((upd (upd (upd (upd (upd (upd (upd (upd g 4 0) 6 0) 7 1) 8 (-1)) 9 (-1)) 10 0) 11 0) 12 (-1)) 3)) 18 ((upd (upd (upd (upd (upd (upd (upd (upd (upd g 4 0) 6 0) 7 1) 8 (-1)) 9 (-1)) 10 0) 11 0) 12 (-1)) 13 ((upd (upd (upd (upd (upd (upd (upd (upd g 4 0) 6 0) 7 1) 8 (-1)) 9 (-1)) 10 0) 11 0) 12 (-1)) 3)) 13)) 13)) - (6 * ((upd (upd (upd (upd (upd (upd (upd (upd (upd (upd g 4 0) 6 0) 7 1) 8 (-1)) 9 (-1)) 10 0) 11 0) 12 (-1)) 13 ((upd (upd (upd (upd (upd (upd (upd (upd g 4 0) 6 0) 7 1) 8 (-1)) 9 (-1)) 10 0) 11 0) 12 (-1)) 3)) 18 ((upd (upd (upd (upd (upd (upd (upd (upd (upd g 4 0) 6 0) 7 1) 8 (-1)) 9 (-1)) 10 0) 11 0) 12 (-1)) 13 ((upd (upd (upd (upd (upd (upd (upd (upd g 4 0) 6 0) 7 1) 8 (-1)) 9 (-1)) 10 0) 11 0) 12 (-1)) 3)) 13)) 13)) * (6 * ((upd (upd (upd (upd (upd (upd (upd (upd (upd (upd g 4 0) 6 0) 7 1) 8 (-1)) 9 (-1)) 10 0) 11 0) 12 (-1)) 13 ((upd (upd (upd (upd (upd (upd (upd (upd g 4 0) 6 0) 7 1) 8 (-1)) 9 (-1)) 10 0) 11 0) 12 (-1)) 3)) 18 ((upd (upd (upd (upd (upd (upd (upd (upd (upd g 4 0) 6 0) 7 1) 8 (-1)) 9 (-1)) 10 0) 11 0) 12 (-1)) 13 ((upd (upd (upd (upd (upd (upd (upd (upd g 4 0) 6 0) 7 1) 8 (-1)) 9 (-1)) 10 0) 11 0) 12 (-1)) 3)) 13)) 13))))) 34 0) 73 (-1)) 74 (-1)) 79 (-1)) 80 (-1)) 85 (-2)) 86 (-1)) 91 (-2)))) := hus hf272
    refine lv_aload_n hx hb dX9_opens_191 rfl (lv_at hl 1 rfl) ?_
    have k274 : f272 m = some (.inr (11, [.int c_th, .int c_re, .ref v, .ref im, .ref kp, .ref pa, .ref de, .ref ide, .int c_un, .int c_hi, .ref tx, .int c_tn, .int c_fa, .int c_rf, .ref pt, .int c_ps, .int c_pl, .int c_to, .ref so, .ref mo, .ref wh, .ref pf])) := hup hf272 (hne k267 k264 (by intro q; cases q)) k267
    refine g_get C0 G k274 rfl hiX9 2 (by decide) mf_X9_9 rfl dX9_opens_192 ?_
    refine lv_iload_n hx hb dX9_opens_195 rfl (lv_at hl 2 rfl) ?_
    refine lv_iload_n hx hb dX9_opens_196 rfl (lv_at hl 0 rfl) ?_
    refine lv_iconst (v := 5) hx hb dX9_opens_197 (by decide) ?_
    refine g_cI C0 G (g_runS C0 G (rest := [.ref v]) (k_X9_batterAt hfl 0 3 5) hY_X9_batterAt mm_X9_65 ms_X9_batterAt ⟨(Nat.le_of_ble_eq_true rfl), (Nat.le_of_ble_eq_true rfl)⟩ rfl hl.1 rfl (Nat.le_of_ble_eq_true rfl) dX9_opens_198 ⟨(Nat.le_of_ble_eq_true rfl), (Nat.le_of_ble_eq_true rfl)⟩) (kx_no rfl) (fun r277 u276 H locs hp275 G => ?_)
    obtain ⟨rfl, eu276⟩ := hp275
    rw [eu276] at G
    refine lv_topv (v := 92) (by decide) ?_
    refine lv_iconst (v := (-1)) hx hb dX9_opens_201 (by decide) ?_
    refine g_iast C0 G k273 0 rfl (by unfold vp_in; decide) dX9_opens_202 (fun H locs f278 hf278 G => ?_)
    have k279 : f278 v = some (.inl (cy 0, 6441, .inl (upd (upd (upd (upd (upd (upd (upd (upd (upd (upd (upd (upd (upd (upd (upd (upd (upd (upd (upd (upd g 4 0) 6 0) 7 1) 8 (-1)) 9 (-1)) 10 0) 11 0) 12 (-1)) 13 ((upd (upd (upd (upd (upd (upd (upd (upd g 4 0) 6 0) 7 1) 8 (-1)) 9 (-1)) 10 0) 11 0) 12 (-1)) 3)) 18 ((upd (upd (upd (upd (upd (upd (upd (upd (upd g 4 0) 6 0) 7 1) 8 (-1)) 9 (-1)) 10 0) 11 0) 12 (-1)) 13 ((upd (upd (upd (upd (upd (upd (upd (upd g 4 0) 6 0) 7 1) 8 (-1)) 9 (-1)) 10 0) 11 0) 12 (-1)) 3)) 13)) 14 ((10 - 0) * (240 * (6 * ((upd (upd (upd (upd (upd (upd (upd (upd (upd (upd g 4 0) 6 0) 7 1) 8 (-1)) 9 (-1)) 10 0) 11 0) 12 (-1)) 13 ((upd (upd (upd (upd (upd (upd (upd (upd g 4 0) 6 0) 7 1) 8 (-1)) 9 (-1)) 10 0) 11 0) 12 (-1)) 3)) 18 ((upd (upd (upd (upd (upd (upd (upd (upd (upd g 4 0) 6 0) 7 1) 8 (-1)) 9 (-1)) 10 0) 11 0) 12 (-1)) 13 ((upd (upd (upd (upd (upd (upd (upd (upd g 4 0) 6 0) 7 1) 8 (-1)) 9 (-1)) 10 0) 11 0) 12 (-1)) 3)) 13)) 13)) - (6 * ((upd (upd (upd (upd (upd (upd (upd (upd (upd (upd g 4 0) 6 0) 7 1) 8 (-1)) 9 (-1)) 10 0) 11 0) 12 (-1)) 13 ((upd (upd (upd (upd (upd (upd (upd (upd g 4 0) 6 0) 7 1) 8 (-1)) 9 (-1)) 10 0) 11 0) 12 (-1)) 3)) 18 ((upd (upd (upd (upd (upd (upd (upd (upd (upd g 4 0) 6 0) 7 1) 8 (-1)) 9 (-1)) 10 0) 11 0) 12 (-1)) 13 ((upd (upd (upd (upd (upd (upd (upd (upd g 4 0) 6 0) 7 1) 8 (-1)) 9 (-1)) 10 0) 11 0) 12 (-1)) 3)) 13)) 13)) * (6 * ((upd (upd (upd (upd (upd (upd (upd (upd (upd (upd g 4 0) 6 0) 7 1) 8 (-1)) 9 (-1)) 10 0) 11 0) 12 (-1)) 13 ((upd (upd (upd (upd (upd (upd (upd (upd g 4 0) 6 0) 7 1) 8 (-1)) 9 (-1)) 10 0) 11 0) 12 (-1)) 3)) 18 ((upd (upd (upd (upd (upd (upd (upd (upd (upd g 4 0) 6 0) 7 1) 8 (-1)) 9 (-1)) 10 0) 11 0) 12 (-1)) 13 ((upd (upd (upd (upd (upd (upd (upd (upd g 4 0) 6 0) 7 1) 8 (-1)) 9 (-1)) 10 0) 11 0) 12 (-1)) 3)) 13)) 13))))) 34 0) 73 (-1)) 74 (-1)) 79 (-1)) 80 (-1)) 85 (-2)) 86 (-1)) 91 (-2)) 92 (-1)))) := hus hf278
    refine lv_iinc (v := 4) (lv' := [(2, .int 4), (0, .ref m), (1, .int 0)]) hx hb dX9_opens_203 hl (k := 0) rfl (by exact (by decide)) (by decide) rfl (fun ls hl => ?_)
    refine lv_goto (tgt := 163) hx hb dX9_opens_206 (by decide) ?_
    refine lv_iload_n hx hb dX9_opens_163 rfl (lv_at hl 0 rfl) ?_
    refine lv_bipush (v := 11) hx hb dX9_opens_164 (by decide) ?_
    refine lv_icmp_ge (tgt := 209) hx hb dX9_opens_166 (by decide) (fun c281 => absurd c281 (by decide)) (fun _ => ?_)
    refine lv_aload_n hx hb dX9_opens_169 rfl (lv_at hl 1 rfl) ?_
    have k282 : f278 m = some (.inr (11, [.int c_th, .int c_re, .ref v, .ref im, .ref kp, .ref pa, .ref de, .ref ide, .int c_un, .int c_hi, .ref tx, .int c_tn, .int c_fa, .int c_rf, .ref pt, .int c_ps, .int c_pl, .int c_to, .ref so, .ref mo, .ref wh, .ref pf])) := hup hf278 (hne k274 k273 (by intro q; cases q)) k274
    refine g_get C0 G k282 rfl hiX9 2 (by decide) mf_X9_9 rfl dX9_opens_170 ?_
    refine lv_iload_n hx hb dX9_opens_173 rfl (lv_at hl 2 rfl) ?_
    refine lv_iload_n hx hb dX9_opens_174 rfl (lv_at hl 0 rfl) ?_
    refine lv_iconst (v := 4) hx hb dX9_opens_175 (by decide) ?_
    refine g_cI C0 G (g_runS C0 G (rest := [.ref v]) (k_X9_batterAt hfl 0 4 4) hY_X9_batterAt mm_X9_65 ms_X9_batterAt ⟨(Nat.le_of_ble_eq_true rfl), (Nat.le_of_ble_eq_true rfl)⟩ rfl hl.1 rfl (Nat.le_of_ble_eq_true rfl) dX9_opens_176 ⟨(Nat.le_of_ble_eq_true rfl), (Nat.le_of_ble_eq_true rfl)⟩) (kx_no rfl) (fun r285 u284 H locs hp283 G => ?_)
    obtain ⟨rfl, eu284⟩ := hp283
    rw [eu284] at G
    refine lv_topv (v := 97) (by decide) ?_
    refine lv_iload_n hx hb dX9_opens_179 rfl (lv_at hl 0 rfl) ?_
    refine lv_iconst (v := 2) hx hb dX9_opens_180 (by decide) ?_
    refine lv_icmp_ge (tgt := 188) hx hb dX9_opens_181 (by decide) (fun _ => ?_) (fun c286 => absurd (by decide) c286)
    refine lv_bipush (v := (-2)) hx hb dX9_opens_188 (by decide) ?_
    refine g_iast C0 G k279 0 rfl (by unfold vp_in; decide) dX9_opens_190 (fun H locs f287 hf287 G => ?_)
    have k288 : f287 v = some (.inl (cy 0, 6441, .inl (upd (upd (upd (upd (upd (upd (upd (upd (upd (upd (upd (upd (upd (upd (upd (upd (upd (upd (upd (upd (upd g 4 0) 6 0) 7 1) 8 (-1)) 9 (-1)) 10 0) 11 0) 12 (-1)) 13 ((upd (upd (upd (upd (upd (upd (upd (upd g 4 0) 6 0) 7 1) 8 (-1)) 9 (-1)) 10 0) 11 0) 12 (-1)) 3)) 18 ((upd (upd (upd (upd (upd (upd (upd (upd (upd g 4 0) 6 0) 7 1) 8 (-1)) 9 (-1)) 10 0) 11 0) 12 (-1)) 13 ((upd (upd (upd (upd (upd (upd (upd (upd g 4 0) 6 0) 7 1) 8 (-1)) 9 (-1)) 10 0) 11 0) 12 (-1)) 3)) 13)) 14 ((10 - 0) * (240 * (6 * ((upd (upd (upd (upd (upd (upd (upd (upd (upd (upd g 4 0) 6 0) 7 1) 8 (-1)) 9 (-1)) 10 0) 11 0) 12 (-1)) 13 ((upd (upd (upd (upd (upd (upd (upd (upd g 4 0) 6 0) 7 1) 8 (-1)) 9 (-1)) 10 0) 11 0) 12 (-1)) 3)) 18 ((upd (upd (upd (upd (upd (upd (upd (upd (upd g 4 0) 6 0) 7 1) 8 (-1)) 9 (-1)) 10 0) 11 0) 12 (-1)) 13 ((upd (upd (upd (upd (upd (upd (upd (upd g 4 0) 6 0) 7 1) 8 (-1)) 9 (-1)) 10 0) 11 0) 12 (-1)) 3)) 13)) 13)) - (6 * ((upd (upd (upd (upd (upd (upd (upd (upd (upd (upd g 4 0) 6 0) 7 1) 8 (-1)) 9 (-1)) 10 0) 11 0) 12 (-1)) 13 ((upd (upd (upd (upd (upd (upd (upd (upd g 4 0) 6 0) 7 1) 8 (-1)) 9 (-1)) 10 0) 11 0) 12 (-1)) 3)) 18 ((upd (upd (upd (upd (upd (upd (upd (upd (upd g 4 0) 6 0) 7 1) 8 (-1)) 9 (-1)) 10 0) 11 0) 12 (-1)) 13 ((upd (upd (upd (upd (upd (upd (upd (upd g 4 0) 6 0) 7 1) 8 (-1)) 9 (-1)) 10 0) 11 0) 12 (-1)) 3)) 13)) 13)) * (6 * ((upd (upd (upd (upd (upd (upd (upd (upd (upd (upd g 4 0) 6 0) 7 1) 8 (-1)) 9 (-1)) 10 0) 11 0) 12 (-1)) 13 ((upd (upd (upd (upd (upd (upd (upd (upd g 4 0) 6 0) 7 1) 8 (-1)) 9 (-1)) 10 0) 11 0) 12 (-1)) 3)) 18 ((upd (upd (upd (upd (upd (upd (upd (upd (upd g 4 0) 6 0) 7 1) 8 (-1)) 9 (-1)) 10 0) 11 0) 12 (-1)) 13 ((upd (upd (upd (upd (upd (upd (upd (upd g 4 0) 6 0) 7 1) 8 (-1)) 9 (-1)) 10 0) 11 0) 12 (-1)) 3)) 13)) 13))))) 34 0) 73 (-1)) 74 (-1)) 79 (-1)) 80 (-1)) 85 (-2)) 86 (-1)) 91 (-2)) 92 (-1)) 97 (-2)))) := hus hf287
    refine lv_aload_n hx hb dX9_opens_191 rfl (lv_at hl 1 rfl) ?_
    have k289 : f287 m = some (.inr (11, [.int c_th, .int c_re, .ref v, .ref im, .ref kp, .ref pa, .ref de, .ref ide, .int c_un, .int c_hi, .ref tx, .int c_tn, .int c_fa, .int c_rf, .ref pt, .int c_ps, .int c_pl, .int c_to, .ref so, .ref mo, .ref wh, .ref pf])) := hup hf287 (hne k282 k279 (by intro q; cases q)) k282
    refine g_get C0 G k289 rfl hiX9 2 (by decide) mf_X9_9 rfl dX9_opens_192 ?_
    refine lv_iload_n hx hb dX9_opens_195 rfl (lv_at hl 2 rfl) ?_
    refine lv_iload_n hx hb dX9_opens_196 rfl (lv_at hl 0 rfl) ?_
    refine lv_iconst (v := 5) hx hb dX9_opens_197 (by decide) ?_
    refine g_cI C0 G (g_runS C0 G (rest := [.ref v]) (k_X9_batterAt hfl 0 4 5) hY_X9_batterAt mm_X9_65 ms_X9_batterAt ⟨(Nat.le_of_ble_eq_true rfl), (Nat.le_of_ble_eq_true rfl)⟩ rfl hl.1 rfl (Nat.le_of_ble_eq_true rfl) dX9_opens_198 ⟨(Nat.le_of_ble_eq_true rfl), (Nat.le_of_ble_eq_true rfl)⟩) (kx_no rfl) (fun r292 u291 H locs hp290 G => ?_)
    obtain ⟨rfl, eu291⟩ := hp290
    rw [eu291] at G
    refine lv_topv (v := 98) (by decide) ?_
    refine lv_iconst (v := (-1)) hx hb dX9_opens_201 (by decide) ?_
    refine g_iast C0 G k288 0 rfl (by unfold vp_in; decide) dX9_opens_202 (fun H locs f293 hf293 G => ?_)
    have k294 : f293 v = some (.inl (cy 0, 6441, .inl (upd (upd (upd (upd (upd (upd (upd (upd (upd (upd (upd (upd (upd (upd (upd (upd (upd (upd (upd (upd (upd (upd g 4 0) 6 0) 7 1) 8 (-1)) 9 (-1)) 10 0) 11 0) 12 (-1)) 13 ((upd (upd (upd (upd (upd (upd (upd (upd g 4 0) 6 0) 7 1) 8 (-1)) 9 (-1)) 10 0) 11 0) 12 (-1)) 3)) 18 ((upd (upd (upd (upd (upd (upd (upd (upd (upd g 4 0) 6 0) 7 1) 8 (-1)) 9 (-1)) 10 0) 11 0) 12 (-1)) 13 ((upd (upd (upd (upd (upd (upd (upd (upd g 4 0) 6 0) 7 1) 8 (-1)) 9 (-1)) 10 0) 11 0) 12 (-1)) 3)) 13)) 14 ((10 - 0) * (240 * (6 * ((upd (upd (upd (upd (upd (upd (upd (upd (upd (upd g 4 0) 6 0) 7 1) 8 (-1)) 9 (-1)) 10 0) 11 0) 12 (-1)) 13 ((upd (upd (upd (upd (upd (upd (upd (upd g 4 0) 6 0) 7 1) 8 (-1)) 9 (-1)) 10 0) 11 0) 12 (-1)) 3)) 18 ((upd (upd (upd (upd (upd (upd (upd (upd (upd g 4 0) 6 0) 7 1) 8 (-1)) 9 (-1)) 10 0) 11 0) 12 (-1)) 13 ((upd (upd (upd (upd (upd (upd (upd (upd g 4 0) 6 0) 7 1) 8 (-1)) 9 (-1)) 10 0) 11 0) 12 (-1)) 3)) 13)) 13)) - (6 * ((upd (upd (upd (upd (upd (upd (upd (upd (upd (upd g 4 0) 6 0) 7 1) 8 (-1)) 9 (-1)) 10 0) 11 0) 12 (-1)) 13 ((upd (upd (upd (upd (upd (upd (upd (upd g 4 0) 6 0) 7 1) 8 (-1)) 9 (-1)) 10 0) 11 0) 12 (-1)) 3)) 18 ((upd (upd (upd (upd (upd (upd (upd (upd (upd g 4 0) 6 0) 7 1) 8 (-1)) 9 (-1)) 10 0) 11 0) 12 (-1)) 13 ((upd (upd (upd (upd (upd (upd (upd (upd g 4 0) 6 0) 7 1) 8 (-1)) 9 (-1)) 10 0) 11 0) 12 (-1)) 3)) 13)) 13)) * (6 * ((upd (upd (upd (upd (upd (upd (upd (upd (upd (upd g 4 0) 6 0) 7 1) 8 (-1)) 9 (-1)) 10 0) 11 0) 12 (-1)) 13 ((upd (upd (upd (upd (upd (upd (upd (upd g 4 0) 6 0) 7 1) 8 (-1)) 9 (-1)) 10 0) 11 0) 12 (-1)) 3)) 18 ((upd (upd (upd (upd (upd (upd (upd (upd (upd g 4 0) 6 0) 7 1) 8 (-1)) 9 (-1)) 10 0) 11 0) 12 (-1)) 13 ((upd (upd (upd (upd (upd (upd (upd (upd g 4 0) 6 0) 7 1) 8 (-1)) 9 (-1)) 10 0) 11 0) 12 (-1)) 3)) 13)) 13))))) 34 0) 73 (-1)) 74 (-1)) 79 (-1)) 80 (-1)) 85 (-2)) 86 (-1)) 91 (-2)) 92 (-1)) 97 (-2)) 98 (-1)))) := hus hf293
    refine lv_iinc (v := 5) (lv' := [(2, .int 5), (0, .ref m), (1, .int 0)]) hx hb dX9_opens_203 hl (k := 0) rfl (by exact (by decide)) (by decide) rfl (fun ls hl => ?_)
    refine lv_goto (tgt := 163) hx hb dX9_opens_206 (by decide) ?_
    refine lv_iload_n hx hb dX9_opens_163 rfl (lv_at hl 0 rfl) ?_
    refine lv_bipush (v := 11) hx hb dX9_opens_164 (by decide) ?_
    refine lv_icmp_ge (tgt := 209) hx hb dX9_opens_166 (by decide) (fun c296 => absurd c296 (by decide)) (fun _ => ?_)
    refine lv_aload_n hx hb dX9_opens_169 rfl (lv_at hl 1 rfl) ?_
    have k297 : f293 m = some (.inr (11, [.int c_th, .int c_re, .ref v, .ref im, .ref kp, .ref pa, .ref de, .ref ide, .int c_un, .int c_hi, .ref tx, .int c_tn, .int c_fa, .int c_rf, .ref pt, .int c_ps, .int c_pl, .int c_to, .ref so, .ref mo, .ref wh, .ref pf])) := hup hf293 (hne k289 k288 (by intro q; cases q)) k289
    refine g_get C0 G k297 rfl hiX9 2 (by decide) mf_X9_9 rfl dX9_opens_170 ?_
    refine lv_iload_n hx hb dX9_opens_173 rfl (lv_at hl 2 rfl) ?_
    refine lv_iload_n hx hb dX9_opens_174 rfl (lv_at hl 0 rfl) ?_
    refine lv_iconst (v := 4) hx hb dX9_opens_175 (by decide) ?_
    refine g_cI C0 G (g_runS C0 G (rest := [.ref v]) (k_X9_batterAt hfl 0 5 4) hY_X9_batterAt mm_X9_65 ms_X9_batterAt ⟨(Nat.le_of_ble_eq_true rfl), (Nat.le_of_ble_eq_true rfl)⟩ rfl hl.1 rfl (Nat.le_of_ble_eq_true rfl) dX9_opens_176 ⟨(Nat.le_of_ble_eq_true rfl), (Nat.le_of_ble_eq_true rfl)⟩) (kx_no rfl) (fun r300 u299 H locs hp298 G => ?_)
    obtain ⟨rfl, eu299⟩ := hp298
    rw [eu299] at G
    refine lv_topv (v := 103) (by decide) ?_
    refine lv_iload_n hx hb dX9_opens_179 rfl (lv_at hl 0 rfl) ?_
    refine lv_iconst (v := 2) hx hb dX9_opens_180 (by decide) ?_
    refine lv_icmp_ge (tgt := 188) hx hb dX9_opens_181 (by decide) (fun _ => ?_) (fun c301 => absurd (by decide) c301)
    refine lv_bipush (v := (-2)) hx hb dX9_opens_188 (by decide) ?_
    refine g_iast C0 G k294 0 rfl (by unfold vp_in; decide) dX9_opens_190 (fun H locs f302 hf302 G => ?_)
    have k303 : f302 v = some (.inl (cy 0, 6441, .inl (upd (upd (upd (upd (upd (upd (upd (upd (upd (upd (upd (upd (upd (upd (upd (upd (upd (upd (upd (upd (upd (upd (upd g 4 0) 6 0) 7 1) 8 (-1)) 9 (-1)) 10 0) 11 0) 12 (-1)) 13 ((upd (upd (upd (upd (upd (upd (upd (upd g 4 0) 6 0) 7 1) 8 (-1)) 9 (-1)) 10 0) 11 0) 12 (-1)) 3)) 18 ((upd (upd (upd (upd (upd (upd (upd (upd (upd g 4 0) 6 0) 7 1) 8 (-1)) 9 (-1)) 10 0) 11 0) 12 (-1)) 13 ((upd (upd (upd (upd (upd (upd (upd (upd g 4 0) 6 0) 7 1) 8 (-1)) 9 (-1)) 10 0) 11 0) 12 (-1)) 3)) 13)) 14 ((10 - 0) * (240 * (6 * ((upd (upd (upd (upd (upd (upd (upd (upd (upd (upd g 4 0) 6 0) 7 1) 8 (-1)) 9 (-1)) 10 0) 11 0) 12 (-1)) 13 ((upd (upd (upd (upd (upd (upd (upd (upd g 4 0) 6 0) 7 1) 8 (-1)) 9 (-1)) 10 0) 11 0) 12 (-1)) 3)) 18 ((upd (upd (upd (upd (upd (upd (upd (upd (upd g 4 0) 6 0) 7 1) 8 (-1)) 9 (-1)) 10 0) 11 0) 12 (-1)) 13 ((upd (upd (upd (upd (upd (upd (upd (upd g 4 0) 6 0) 7 1) 8 (-1)) 9 (-1)) 10 0) 11 0) 12 (-1)) 3)) 13)) 13)) - (6 * ((upd (upd (upd (upd (upd (upd (upd (upd (upd (upd g 4 0) 6 0) 7 1) 8 (-1)) 9 (-1)) 10 0) 11 0) 12 (-1)) 13 ((upd (upd (upd (upd (upd (upd (upd (upd g 4 0) 6 0) 7 1) 8 (-1)) 9 (-1)) 10 0) 11 0) 12 (-1)) 3)) 18 ((upd (upd (upd (upd (upd (upd (upd (upd (upd g 4 0) 6 0) 7 1) 8 (-1)) 9 (-1)) 10 0) 11 0) 12 (-1)) 13 ((upd (upd (upd (upd (upd (upd (upd (upd g 4 0) 6 0) 7 1) 8 (-1)) 9 (-1)) 10 0) 11 0) 12 (-1)) 3)) 13)) 13)) * (6 * ((upd (upd (upd (upd (upd (upd (upd (upd (upd (upd g 4 0) 6 0) 7 1) 8 (-1)) 9 (-1)) 10 0) 11 0) 12 (-1)) 13 ((upd (upd (upd (upd (upd (upd (upd (upd g 4 0) 6 0) 7 1) 8 (-1)) 9 (-1)) 10 0) 11 0) 12 (-1)) 3)) 18 ((upd (upd (upd (upd (upd (upd (upd (upd (upd g 4 0) 6 0) 7 1) 8 (-1)) 9 (-1)) 10 0) 11 0) 12 (-1)) 13 ((upd (upd (upd (upd (upd (upd (upd (upd g 4 0) 6 0) 7 1) 8 (-1)) 9 (-1)) 10 0) 11 0) 12 (-1)) 3)) 13)) 13))))) 34 0) 73 (-1)) 74 (-1)) 79 (-1)) 80 (-1)) 85 (-2)) 86 (-1)) 91 (-2)) 92 (-1)) 97 (-2)) 98 (-1)) 103 (-2)))) := hus hf302
    refine lv_aload_n hx hb dX9_opens_191 rfl (lv_at hl 1 rfl) ?_
    have k304 : f302 m = some (.inr (11, [.int c_th, .int c_re, .ref v, .ref im, .ref kp, .ref pa, .ref de, .ref ide, .int c_un, .int c_hi, .ref tx, .int c_tn, .int c_fa, .int c_rf, .ref pt, .int c_ps, .int c_pl, .int c_to, .ref so, .ref mo, .ref wh, .ref pf])) := hup hf302 (hne k297 k294 (by intro q; cases q)) k297
    refine g_get C0 G k304 rfl hiX9 2 (by decide) mf_X9_9 rfl dX9_opens_192 ?_
    refine lv_iload_n hx hb dX9_opens_195 rfl (lv_at hl 2 rfl) ?_
    refine lv_iload_n hx hb dX9_opens_196 rfl (lv_at hl 0 rfl) ?_
    refine lv_iconst (v := 5) hx hb dX9_opens_197 (by decide) ?_
    refine g_cI C0 G (g_runS C0 G (rest := [.ref v]) (k_X9_batterAt hfl 0 5 5) hY_X9_batterAt mm_X9_65 ms_X9_batterAt ⟨(Nat.le_of_ble_eq_true rfl), (Nat.le_of_ble_eq_true rfl)⟩ rfl hl.1 rfl (Nat.le_of_ble_eq_true rfl) dX9_opens_198 ⟨(Nat.le_of_ble_eq_true rfl), (Nat.le_of_ble_eq_true rfl)⟩) (kx_no rfl) (fun r307 u306 H locs hp305 G => ?_)
    obtain ⟨rfl, eu306⟩ := hp305
    rw [eu306] at G
    refine lv_topv (v := 104) (by decide) ?_
    refine lv_iconst (v := (-1)) hx hb dX9_opens_201 (by decide) ?_
    refine g_iast C0 G k303 0 rfl (by unfold vp_in; decide) dX9_opens_202 (fun H locs f308 hf308 G => ?_)
    have k309 : f308 v = some (.inl (cy 0, 6441, .inl (upd (upd (upd (upd (upd (upd (upd (upd (upd (upd (upd (upd (upd (upd (upd (upd (upd (upd (upd (upd (upd (upd (upd (upd g 4 0) 6 0) 7 1) 8 (-1)) 9 (-1)) 10 0) 11 0) 12 (-1)) 13 ((upd (upd (upd (upd (upd (upd (upd (upd g 4 0) 6 0) 7 1) 8 (-1)) 9 (-1)) 10 0) 11 0) 12 (-1)) 3)) 18 ((upd (upd (upd (upd (upd (upd (upd (upd (upd g 4 0) 6 0) 7 1) 8 (-1)) 9 (-1)) 10 0) 11 0) 12 (-1)) 13 ((upd (upd (upd (upd (upd (upd (upd (upd g 4 0) 6 0) 7 1) 8 (-1)) 9 (-1)) 10 0) 11 0) 12 (-1)) 3)) 13)) 14 ((10 - 0) * (240 * (6 * ((upd (upd (upd (upd (upd (upd (upd (upd (upd (upd g 4 0) 6 0) 7 1) 8 (-1)) 9 (-1)) 10 0) 11 0) 12 (-1)) 13 ((upd (upd (upd (upd (upd (upd (upd (upd g 4 0) 6 0) 7 1) 8 (-1)) 9 (-1)) 10 0) 11 0) 12 (-1)) 3)) 18 ((upd (upd (upd (upd (upd (upd (upd (upd (upd g 4 0) 6 0) 7 1) 8 (-1)) 9 (-1)) 10 0) 11 0) 12 (-1)) 13 ((upd (upd (upd (upd (upd (upd (upd (upd g 4 0) 6 0) 7 1) 8 (-1)) 9 (-1)) 10 0) 11 0) 12 (-1)) 3)) 13)) 13)) - (6 * ((upd (upd (upd (upd (upd (upd (upd (upd (upd (upd g 4 0) 6 0) 7 1) 8 (-1)) 9 (-1)) 10 0) 11 0) 12 (-1)) 13 ((upd (upd (upd (upd (upd (upd (upd (upd g 4 0) 6 0) 7 1) 8 (-1)) 9 (-1)) 10 0) 11 0) 12 (-1)) 3)) 18 ((upd (upd (upd (upd (upd (upd (upd (upd (upd g 4 0) 6 0) 7 1) 8 (-1)) 9 (-1)) 10 0) 11 0) 12 (-1)) 13 ((upd (upd (upd (upd (upd (upd (upd (upd g 4 0) 6 0) 7 1) 8 (-1)) 9 (-1)) 10 0) 11 0) 12 (-1)) 3)) 13)) 13)) * (6 * ((upd (upd (upd (upd (upd (upd (upd (upd (upd (upd g 4 0) 6 0) 7 1) 8 (-1)) 9 (-1)) 10 0) 11 0) 12 (-1)) 13 ((upd (upd (upd (upd (upd (upd (upd (upd g 4 0) 6 0) 7 1) 8 (-1)) 9 (-1)) 10 0) 11 0) 12 (-1)) 3)) 18 ((upd (upd (upd (upd (upd (upd (upd (upd (upd g 4 0) 6 0) 7 1) 8 (-1)) 9 (-1)) 10 0) 11 0) 12 (-1)) 13 ((upd (upd (upd (upd (upd (upd (upd (upd g 4 0) 6 0) 7 1) 8 (-1)) 9 (-1)) 10 0) 11 0) 12 (-1)) 3)) 13)) 13))))) 34 0) 73 (-1)) 74 (-1)) 79 (-1)) 80 (-1)) 85 (-2)) 86 (-1)) 91 (-2)) 92 (-1)) 97 (-2)) 98 (-1)) 103 (-2)) 104 (-1)))) := hus hf308
    refine lv_iinc (v := 6) (lv' := [(2, .int 6), (0, .ref m), (1, .int 0)]) hx hb dX9_opens_203 hl (k := 0) rfl (by exact (by decide)) (by decide) rfl (fun ls hl => ?_)
    refine lv_goto (tgt := 163) hx hb dX9_opens_206 (by decide) ?_
    refine lv_iload_n hx hb dX9_opens_163 rfl (lv_at hl 0 rfl) ?_
    refine lv_bipush (v := 11) hx hb dX9_opens_164 (by decide) ?_
    refine lv_icmp_ge (tgt := 209) hx hb dX9_opens_166 (by decide) (fun c311 => absurd c311 (by decide)) (fun _ => ?_)
    refine lv_aload_n hx hb dX9_opens_169 rfl (lv_at hl 1 rfl) ?_
    have k312 : f308 m = some (.inr (11, [.int c_th, .int c_re, .ref v, .ref im, .ref kp, .ref pa, .ref de, .ref ide, .int c_un, .int c_hi, .ref tx, .int c_tn, .int c_fa, .int c_rf, .ref pt, .int c_ps, .int c_pl, .int c_to, .ref so, .ref mo, .ref wh, .ref pf])) := hup hf308 (hne k304 k303 (by intro q; cases q)) k304
    refine g_get C0 G k312 rfl hiX9 2 (by decide) mf_X9_9 rfl dX9_opens_170 ?_
    refine lv_iload_n hx hb dX9_opens_173 rfl (lv_at hl 2 rfl) ?_
    refine lv_iload_n hx hb dX9_opens_174 rfl (lv_at hl 0 rfl) ?_
    refine lv_iconst (v := 4) hx hb dX9_opens_175 (by decide) ?_
    refine g_cI C0 G (g_runS C0 G (rest := [.ref v]) (k_X9_batterAt hfl 0 6 4) hY_X9_batterAt mm_X9_65 ms_X9_batterAt ⟨(Nat.le_of_ble_eq_true rfl), (Nat.le_of_ble_eq_true rfl)⟩ rfl hl.1 rfl (Nat.le_of_ble_eq_true rfl) dX9_opens_176 ⟨(Nat.le_of_ble_eq_true rfl), (Nat.le_of_ble_eq_true rfl)⟩) (kx_no rfl) (fun r315 u314 H locs hp313 G => ?_)
    obtain ⟨rfl, eu314⟩ := hp313
    rw [eu314] at G
    refine lv_topv (v := 109) (by decide) ?_
    refine lv_iload_n hx hb dX9_opens_179 rfl (lv_at hl 0 rfl) ?_
    refine lv_iconst (v := 2) hx hb dX9_opens_180 (by decide) ?_
    refine lv_icmp_ge (tgt := 188) hx hb dX9_opens_181 (by decide) (fun _ => ?_) (fun c316 => absurd (by decide) c316)
    refine lv_bipush (v := (-2)) hx hb dX9_opens_188 (by decide) ?_
    refine g_iast C0 G k309 0 rfl (by unfold vp_in; decide) dX9_opens_190 (fun H locs f317 hf317 G => ?_)
    have k318 : f317 v = some (.inl (cy 0, 6441, .inl (upd (upd (upd (upd (upd (upd (upd (upd (upd (upd (upd (upd (upd (upd (upd (upd (upd (upd (upd (upd (upd (upd (upd (upd (upd g 4 0) 6 0) 7 1) 8 (-1)) 9 (-1)) 10 0) 11 0) 12 (-1)) 13 ((upd (upd (upd (upd (upd (upd (upd (upd g 4 0) 6 0) 7 1) 8 (-1)) 9 (-1)) 10 0) 11 0) 12 (-1)) 3)) 18 ((upd (upd (upd (upd (upd (upd (upd (upd (upd g 4 0) 6 0) 7 1) 8 (-1)) 9 (-1)) 10 0) 11 0) 12 (-1)) 13 ((upd (upd (upd (upd (upd (upd (upd (upd g 4 0) 6 0) 7 1) 8 (-1)) 9 (-1)) 10 0) 11 0) 12 (-1)) 3)) 13)) 14 ((10 - 0) * (240 * (6 * ((upd (upd (upd (upd (upd (upd (upd (upd (upd (upd g 4 0) 6 0) 7 1) 8 (-1)) 9 (-1)) 10 0) 11 0) 12 (-1)) 13 ((upd (upd (upd (upd (upd (upd (upd (upd g 4 0) 6 0) 7 1) 8 (-1)) 9 (-1)) 10 0) 11 0) 12 (-1)) 3)) 18 ((upd (upd (upd (upd (upd (upd (upd (upd (upd g 4 0) 6 0) 7 1) 8 (-1)) 9 (-1)) 10 0) 11 0) 12 (-1)) 13 ((upd (upd (upd (upd (upd (upd (upd (upd g 4 0) 6 0) 7 1) 8 (-1)) 9 (-1)) 10 0) 11 0) 12 (-1)) 3)) 13)) 13)) - (6 * ((upd (upd (upd (upd (upd (upd (upd (upd (upd (upd g 4 0) 6 0) 7 1) 8 (-1)) 9 (-1)) 10 0) 11 0) 12 (-1)) 13 ((upd (upd (upd (upd (upd (upd (upd (upd g 4 0) 6 0) 7 1) 8 (-1)) 9 (-1)) 10 0) 11 0) 12 (-1)) 3)) 18 ((upd (upd (upd (upd (upd (upd (upd (upd (upd g 4 0) 6 0) 7 1) 8 (-1)) 9 (-1)) 10 0) 11 0) 12 (-1)) 13 ((upd (upd (upd (upd (upd (upd (upd (upd g 4 0) 6 0) 7 1) 8 (-1)) 9 (-1)) 10 0) 11 0) 12 (-1)) 3)) 13)) 13)) * (6 * ((upd (upd (upd (upd (upd (upd (upd (upd (upd (upd g 4 0) 6 0) 7 1) 8 (-1)) 9 (-1)) 10 0) 11 0) 12 (-1)) 13 ((upd (upd (upd (upd (upd (upd (upd (upd g 4 0) 6 0) 7 1) 8 (-1)) 9 (-1)) 10 0) 11 0) 12 (-1)) 3)) 18 ((upd (upd (upd (upd (upd (upd (upd (upd (upd g 4 0) 6 0) 7 1) 8 (-1)) 9 (-1)) 10 0) 11 0) 12 (-1)) 13 ((upd (upd (upd (upd (upd (upd (upd (upd g 4 0) 6 0) 7 1) 8 (-1)) 9 (-1)) 10 0) 11 0) 12 (-1)) 3)) 13)) 13))))) 34 0) 73 (-1)) 74 (-1)) 79 (-1)) 80 (-1)) 85 (-2)) 86 (-1)) 91 (-2)) 92 (-1)) 97 (-2)) 98 (-1)) 103 (-2)) 104 (-1)) 109 (-2)))) := hus hf317
    refine lv_aload_n hx hb dX9_opens_191 rfl (lv_at hl 1 rfl) ?_
    have k319 : f317 m = some (.inr (11, [.int c_th, .int c_re, .ref v, .ref im, .ref kp, .ref pa, .ref de, .ref ide, .int c_un, .int c_hi, .ref tx, .int c_tn, .int c_fa, .int c_rf, .ref pt, .int c_ps, .int c_pl, .int c_to, .ref so, .ref mo, .ref wh, .ref pf])) := hup hf317 (hne k312 k309 (by intro q; cases q)) k312
    refine g_get C0 G k319 rfl hiX9 2 (by decide) mf_X9_9 rfl dX9_opens_192 ?_
    refine lv_iload_n hx hb dX9_opens_195 rfl (lv_at hl 2 rfl) ?_
    refine lv_iload_n hx hb dX9_opens_196 rfl (lv_at hl 0 rfl) ?_
    refine lv_iconst (v := 5) hx hb dX9_opens_197 (by decide) ?_
    refine g_cI C0 G (g_runS C0 G (rest := [.ref v]) (k_X9_batterAt hfl 0 6 5) hY_X9_batterAt mm_X9_65 ms_X9_batterAt ⟨(Nat.le_of_ble_eq_true rfl), (Nat.le_of_ble_eq_true rfl)⟩ rfl hl.1 rfl (Nat.le_of_ble_eq_true rfl) dX9_opens_198 ⟨(Nat.le_of_ble_eq_true rfl), (Nat.le_of_ble_eq_true rfl)⟩) (kx_no rfl) (fun r322 u321 H locs hp320 G => ?_)
    obtain ⟨rfl, eu321⟩ := hp320
    rw [eu321] at G
    refine lv_topv (v := 110) (by decide) ?_
    refine lv_iconst (v := (-1)) hx hb dX9_opens_201 (by decide) ?_
    refine g_iast C0 G k318 0 rfl (by unfold vp_in; decide) dX9_opens_202 (fun H locs f323 hf323 G => ?_)
    have k324 : f323 v = some (.inl (cy 0, 6441, .inl (upd (upd (upd (upd (upd (upd (upd (upd (upd (upd (upd (upd (upd (upd (upd (upd (upd (upd (upd (upd (upd (upd (upd (upd (upd (upd g 4 0) 6 0) 7 1) 8 (-1)) 9 (-1)) 10 0) 11 0) 12 (-1)) 13 ((upd (upd (upd (upd (upd (upd (upd (upd g 4 0) 6 0) 7 1) 8 (-1)) 9 (-1)) 10 0) 11 0) 12 (-1)) 3)) 18 ((upd (upd (upd (upd (upd (upd (upd (upd (upd g 4 0) 6 0) 7 1) 8 (-1)) 9 (-1)) 10 0) 11 0) 12 (-1)) 13 ((upd (upd (upd (upd (upd (upd (upd (upd g 4 0) 6 0) 7 1) 8 (-1)) 9 (-1)) 10 0) 11 0) 12 (-1)) 3)) 13)) 14 ((10 - 0) * (240 * (6 * ((upd (upd (upd (upd (upd (upd (upd (upd (upd (upd g 4 0) 6 0) 7 1) 8 (-1)) 9 (-1)) 10 0) 11 0) 12 (-1)) 13 ((upd (upd (upd (upd (upd (upd (upd (upd g 4 0) 6 0) 7 1) 8 (-1)) 9 (-1)) 10 0) 11 0) 12 (-1)) 3)) 18 ((upd (upd (upd (upd (upd (upd (upd (upd (upd g 4 0) 6 0) 7 1) 8 (-1)) 9 (-1)) 10 0) 11 0) 12 (-1)) 13 ((upd (upd (upd (upd (upd (upd (upd (upd g 4 0) 6 0) 7 1) 8 (-1)) 9 (-1)) 10 0) 11 0) 12 (-1)) 3)) 13)) 13)) - (6 * ((upd (upd (upd (upd (upd (upd (upd (upd (upd (upd g 4 0) 6 0) 7 1) 8 (-1)) 9 (-1)) 10 0) 11 0) 12 (-1)) 13 ((upd (upd (upd (upd (upd (upd (upd (upd g 4 0) 6 0) 7 1) 8 (-1)) 9 (-1)) 10 0) 11 0) 12 (-1)) 3)) 18 ((upd (upd (upd (upd (upd (upd (upd (upd (upd g 4 0) 6 0) 7 1) 8 (-1)) 9 (-1)) 10 0) 11 0) 12 (-1)) 13 ((upd (upd (upd (upd (upd (upd (upd (upd g 4 0) 6 0) 7 1) 8 (-1)) 9 (-1)) 10 0) 11 0) 12 (-1)) 3)) 13)) 13)) * (6 * ((upd (upd (upd (upd (upd (upd (upd (upd (upd (upd g 4 0) 6 0) 7 1) 8 (-1)) 9 (-1)) 10 0) 11 0) 12 (-1)) 13 ((upd (upd (upd (upd (upd (upd (upd (upd g 4 0) 6 0) 7 1) 8 (-1)) 9 (-1)) 10 0) 11 0) 12 (-1)) 3)) 18 ((upd (upd (upd (upd (upd (upd (upd (upd (upd g 4 0) 6 0) 7 1) 8 (-1)) 9 (-1)) 10 0) 11 0) 12 (-1)) 13 ((upd (upd (upd (upd (upd (upd (upd (upd g 4 0) 6 0) 7 1) 8 (-1)) 9 (-1)) 10 0) 11 0) 12 (-1)) 3)) 13)) 13))))) 34 0) 73 (-1)) 74 (-1)) 79 (-1)) 80 (-1)) 85 (-2)) 86 (-1)) 91 (-2)) 92 (-1)) 97 (-2)) 98 (-1)) 103 (-2)) 104 (-1)) 109 (-2)) 110 (-1)))) := hus hf323
    refine lv_iinc (v := 7) (lv' := [(2, .int 7), (0, .ref m), (1, .int 0)]) hx hb dX9_opens_203 hl (k := 0) rfl (by exact (by decide)) (by decide) rfl (fun ls hl => ?_)
    refine lv_goto (tgt := 163) hx hb dX9_opens_206 (by decide) ?_
    refine lv_iload_n hx hb dX9_opens_163 rfl (lv_at hl 0 rfl) ?_
    refine lv_bipush (v := 11) hx hb dX9_opens_164 (by decide) ?_
    refine lv_icmp_ge (tgt := 209) hx hb dX9_opens_166 (by decide) (fun c326 => absurd c326 (by decide)) (fun _ => ?_)
    refine lv_aload_n hx hb dX9_opens_169 rfl (lv_at hl 1 rfl) ?_
    have k327 : f323 m = some (.inr (11, [.int c_th, .int c_re, .ref v, .ref im, .ref kp, .ref pa, .ref de, .ref ide, .int c_un, .int c_hi, .ref tx, .int c_tn, .int c_fa, .int c_rf, .ref pt, .int c_ps, .int c_pl, .int c_to, .ref so, .ref mo, .ref wh, .ref pf])) := hup hf323 (hne k319 k318 (by intro q; cases q)) k319
    refine g_get C0 G k327 rfl hiX9 2 (by decide) mf_X9_9 rfl dX9_opens_170 ?_
    refine lv_iload_n hx hb dX9_opens_173 rfl (lv_at hl 2 rfl) ?_
    refine lv_iload_n hx hb dX9_opens_174 rfl (lv_at hl 0 rfl) ?_
    refine lv_iconst (v := 4) hx hb dX9_opens_175 (by decide) ?_
    refine g_cI C0 G (g_runS C0 G (rest := [.ref v]) (k_X9_batterAt hfl 0 7 4) hY_X9_batterAt mm_X9_65 ms_X9_batterAt ⟨(Nat.le_of_ble_eq_true rfl), (Nat.le_of_ble_eq_true rfl)⟩ rfl hl.1 rfl (Nat.le_of_ble_eq_true rfl) dX9_opens_176 ⟨(Nat.le_of_ble_eq_true rfl), (Nat.le_of_ble_eq_true rfl)⟩) (kx_no rfl) (fun r330 u329 H locs hp328 G => ?_)
    obtain ⟨rfl, eu329⟩ := hp328
    rw [eu329] at G
    refine lv_topv (v := 115) (by decide) ?_
    refine lv_iload_n hx hb dX9_opens_179 rfl (lv_at hl 0 rfl) ?_
    refine lv_iconst (v := 2) hx hb dX9_opens_180 (by decide) ?_
    refine lv_icmp_ge (tgt := 188) hx hb dX9_opens_181 (by decide) (fun _ => ?_) (fun c331 => absurd (by decide) c331)
    refine lv_bipush (v := (-2)) hx hb dX9_opens_188 (by decide) ?_
    refine g_iast C0 G k324 0 rfl (by unfold vp_in; decide) dX9_opens_190 (fun H locs f332 hf332 G => ?_)
    have k333 : f332 v = some (.inl (cy 0, 6441, .inl (upd (upd (upd (upd (upd (upd (upd (upd (upd (upd (upd (upd (upd (upd (upd (upd (upd (upd (upd (upd (upd (upd (upd (upd (upd (upd (upd g 4 0) 6 0) 7 1) 8 (-1)) 9 (-1)) 10 0) 11 0) 12 (-1)) 13 ((upd (upd (upd (upd (upd (upd (upd (upd g 4 0) 6 0) 7 1) 8 (-1)) 9 (-1)) 10 0) 11 0) 12 (-1)) 3)) 18 ((upd (upd (upd (upd (upd (upd (upd (upd (upd g 4 0) 6 0) 7 1) 8 (-1)) 9 (-1)) 10 0) 11 0) 12 (-1)) 13 ((upd (upd (upd (upd (upd (upd (upd (upd g 4 0) 6 0) 7 1) 8 (-1)) 9 (-1)) 10 0) 11 0) 12 (-1)) 3)) 13)) 14 ((10 - 0) * (240 * (6 * ((upd (upd (upd (upd (upd (upd (upd (upd (upd (upd g 4 0) 6 0) 7 1) 8 (-1)) 9 (-1)) 10 0) 11 0) 12 (-1)) 13 ((upd (upd (upd (upd (upd (upd (upd (upd g 4 0) 6 0) 7 1) 8 (-1)) 9 (-1)) 10 0) 11 0) 12 (-1)) 3)) 18 ((upd (upd (upd (upd (upd (upd (upd (upd (upd g 4 0) 6 0) 7 1) 8 (-1)) 9 (-1)) 10 0) 11 0) 12 (-1)) 13 ((upd (upd (upd (upd (upd (upd (upd (upd g 4 0) 6 0) 7 1) 8 (-1)) 9 (-1)) 10 0) 11 0) 12 (-1)) 3)) 13)) 13)) - (6 * ((upd (upd (upd (upd (upd (upd (upd (upd (upd (upd g 4 0) 6 0) 7 1) 8 (-1)) 9 (-1)) 10 0) 11 0) 12 (-1)) 13 ((upd (upd (upd (upd (upd (upd (upd (upd g 4 0) 6 0) 7 1) 8 (-1)) 9 (-1)) 10 0) 11 0) 12 (-1)) 3)) 18 ((upd (upd (upd (upd (upd (upd (upd (upd (upd g 4 0) 6 0) 7 1) 8 (-1)) 9 (-1)) 10 0) 11 0) 12 (-1)) 13 ((upd (upd (upd (upd (upd (upd (upd (upd g 4 0) 6 0) 7 1) 8 (-1)) 9 (-1)) 10 0) 11 0) 12 (-1)) 3)) 13)) 13)) * (6 * ((upd (upd (upd (upd (upd (upd (upd (upd (upd (upd g 4 0) 6 0) 7 1) 8 (-1)) 9 (-1)) 10 0) 11 0) 12 (-1)) 13 ((upd (upd (upd (upd (upd (upd (upd (upd g 4 0) 6 0) 7 1) 8 (-1)) 9 (-1)) 10 0) 11 0) 12 (-1)) 3)) 18 ((upd (upd (upd (upd (upd (upd (upd (upd (upd g 4 0) 6 0) 7 1) 8 (-1)) 9 (-1)) 10 0) 11 0) 12 (-1)) 13 ((upd (upd (upd (upd (upd (upd (upd (upd g 4 0) 6 0) 7 1) 8 (-1)) 9 (-1)) 10 0) 11 0) 12 (-1)) 3)) 13)) 13))))) 34 0) 73 (-1)) 74 (-1)) 79 (-1)) 80 (-1)) 85 (-2)) 86 (-1)) 91 (-2)) 92 (-1)) 97 (-2)) 98 (-1)) 103 (-2)) 104 (-1)) 109 (-2)) 110 (-1)) 115 (-2)))) := hus hf332
    refine lv_aload_n hx hb dX9_opens_191 rfl (lv_at hl 1 rfl) ?_
    have k334 : f332 m = some (.inr (11, [.int c_th, .int c_re, .ref v, .ref im, .ref kp, .ref pa, .ref de, .ref ide, .int c_un, .int c_hi, .ref tx, .int c_tn, .int c_fa, .int c_rf, .ref pt, .int c_ps, .int c_pl, .int c_to, .ref so, .ref mo, .ref wh, .ref pf])) := hup hf332 (hne k327 k324 (by intro q; cases q)) k327
    refine g_get C0 G k334 rfl hiX9 2 (by decide) mf_X9_9 rfl dX9_opens_192 ?_
    refine lv_iload_n hx hb dX9_opens_195 rfl (lv_at hl 2 rfl) ?_
    refine lv_iload_n hx hb dX9_opens_196 rfl (lv_at hl 0 rfl) ?_
    refine lv_iconst (v := 5) hx hb dX9_opens_197 (by decide) ?_
    refine g_cI C0 G (g_runS C0 G (rest := [.ref v]) (k_X9_batterAt hfl 0 7 5) hY_X9_batterAt mm_X9_65 ms_X9_batterAt ⟨(Nat.le_of_ble_eq_true rfl), (Nat.le_of_ble_eq_true rfl)⟩ rfl hl.1 rfl (Nat.le_of_ble_eq_true rfl) dX9_opens_198 ⟨(Nat.le_of_ble_eq_true rfl), (Nat.le_of_ble_eq_true rfl)⟩) (kx_no rfl) (fun r337 u336 H locs hp335 G => ?_)
    obtain ⟨rfl, eu336⟩ := hp335
    rw [eu336] at G
    refine lv_topv (v := 116) (by decide) ?_
    refine lv_iconst (v := (-1)) hx hb dX9_opens_201 (by decide) ?_
    refine g_iast C0 G k333 0 rfl (by unfold vp_in; decide) dX9_opens_202 (fun H locs f338 hf338 G => ?_)
    have k339 : f338 v = some (.inl (cy 0, 6441, .inl (upd (upd (upd (upd (upd (upd (upd (upd (upd (upd (upd (upd (upd (upd (upd (upd (upd (upd (upd (upd (upd (upd (upd (upd (upd (upd (upd (upd g 4 0) 6 0) 7 1) 8 (-1)) 9 (-1)) 10 0) 11 0) 12 (-1)) 13 ((upd (upd (upd (upd (upd (upd (upd (upd g 4 0) 6 0) 7 1) 8 (-1)) 9 (-1)) 10 0) 11 0) 12 (-1)) 3)) 18 ((upd (upd (upd (upd (upd (upd (upd (upd (upd g 4 0) 6 0) 7 1) 8 (-1)) 9 (-1)) 10 0) 11 0) 12 (-1)) 13 ((upd (upd (upd (upd (upd (upd (upd (upd g 4 0) 6 0) 7 1) 8 (-1)) 9 (-1)) 10 0) 11 0) 12 (-1)) 3)) 13)) 14 ((10 - 0) * (240 * (6 * ((upd (upd (upd (upd (upd (upd (upd (upd (upd (upd g 4 0) 6 0) 7 1) 8 (-1)) 9 (-1)) 10 0) 11 0) 12 (-1)) 13 ((upd (upd (upd (upd (upd (upd (upd (upd g 4 0) 6 0) 7 1) 8 (-1)) 9 (-1)) 10 0) 11 0) 12 (-1)) 3)) 18 ((upd (upd (upd (upd (upd (upd (upd (upd (upd g 4 0) 6 0) 7 1) 8 (-1)) 9 (-1)) 10 0) 11 0) 12 (-1)) 13 ((upd (upd (upd (upd (upd (upd (upd (upd g 4 0) 6 0) 7 1) 8 (-1)) 9 (-1)) 10 0) 11 0) 12 (-1)) 3)) 13)) 13)) - (6 * ((upd (upd (upd (upd (upd (upd (upd (upd (upd (upd g 4 0) 6 0) 7 1) 8 (-1)) 9 (-1)) 10 0) 11 0) 12 (-1)) 13 ((upd (upd (upd (upd (upd (upd (upd (upd g 4 0) 6 0) 7 1) 8 (-1)) 9 (-1)) 10 0) 11 0) 12 (-1)) 3)) 18 ((upd (upd (upd (upd (upd (upd (upd (upd (upd g 4 0) 6 0) 7 1) 8 (-1)) 9 (-1)) 10 0) 11 0) 12 (-1)) 13 ((upd (upd (upd (upd (upd (upd (upd (upd g 4 0) 6 0) 7 1) 8 (-1)) 9 (-1)) 10 0) 11 0) 12 (-1)) 3)) 13)) 13)) * (6 * ((upd (upd (upd (upd (upd (upd (upd (upd (upd (upd g 4 0) 6 0) 7 1) 8 (-1)) 9 (-1)) 10 0) 11 0) 12 (-1)) 13 ((upd (upd (upd (upd (upd (upd (upd (upd g 4 0) 6 0) 7 1) 8 (-1)) 9 (-1)) 10 0) 11 0) 12 (-1)) 3)) 18 ((upd (upd (upd (upd (upd (upd (upd (upd (upd g 4 0) 6 0) 7 1) 8 (-1)) 9 (-1)) 10 0) 11 0) 12 (-1)) 13 ((upd (upd (upd (upd (upd (upd (upd (upd g 4 0) 6 0) 7 1) 8 (-1)) 9 (-1)) 10 0) 11 0) 12 (-1)) 3)) 13)) 13))))) 34 0) 73 (-1)) 74 (-1)) 79 (-1)) 80 (-1)) 85 (-2)) 86 (-1)) 91 (-2)) 92 (-1)) 97 (-2)) 98 (-1)) 103 (-2)) 104 (-1)) 109 (-2)) 110 (-1)) 115 (-2)) 116 (-1)))) := hus hf338
    refine lv_iinc (v := 8) (lv' := [(2, .int 8), (0, .ref m), (1, .int 0)]) hx hb dX9_opens_203 hl (k := 0) rfl (by exact (by decide)) (by decide) rfl (fun ls hl => ?_)
    refine lv_goto (tgt := 163) hx hb dX9_opens_206 (by decide) ?_
    refine lv_iload_n hx hb dX9_opens_163 rfl (lv_at hl 0 rfl) ?_
    refine lv_bipush (v := 11) hx hb dX9_opens_164 (by decide) ?_
    refine lv_icmp_ge (tgt := 209) hx hb dX9_opens_166 (by decide) (fun c341 => absurd c341 (by decide)) (fun _ => ?_)
    refine lv_aload_n hx hb dX9_opens_169 rfl (lv_at hl 1 rfl) ?_
    have k342 : f338 m = some (.inr (11, [.int c_th, .int c_re, .ref v, .ref im, .ref kp, .ref pa, .ref de, .ref ide, .int c_un, .int c_hi, .ref tx, .int c_tn, .int c_fa, .int c_rf, .ref pt, .int c_ps, .int c_pl, .int c_to, .ref so, .ref mo, .ref wh, .ref pf])) := hup hf338 (hne k334 k333 (by intro q; cases q)) k334
    refine g_get C0 G k342 rfl hiX9 2 (by decide) mf_X9_9 rfl dX9_opens_170 ?_
    refine lv_iload_n hx hb dX9_opens_173 rfl (lv_at hl 2 rfl) ?_
    refine lv_iload_n hx hb dX9_opens_174 rfl (lv_at hl 0 rfl) ?_
    refine lv_iconst (v := 4) hx hb dX9_opens_175 (by decide) ?_
    refine g_cI C0 G (g_runS C0 G (rest := [.ref v]) (k_X9_batterAt hfl 0 8 4) hY_X9_batterAt mm_X9_65 ms_X9_batterAt ⟨(Nat.le_of_ble_eq_true rfl), (Nat.le_of_ble_eq_true rfl)⟩ rfl hl.1 rfl (Nat.le_of_ble_eq_true rfl) dX9_opens_176 ⟨(Nat.le_of_ble_eq_true rfl), (Nat.le_of_ble_eq_true rfl)⟩) (kx_no rfl) (fun r345 u344 H locs hp343 G => ?_)
    obtain ⟨rfl, eu344⟩ := hp343
    rw [eu344] at G
    refine lv_topv (v := 121) (by decide) ?_
    refine lv_iload_n hx hb dX9_opens_179 rfl (lv_at hl 0 rfl) ?_
    refine lv_iconst (v := 2) hx hb dX9_opens_180 (by decide) ?_
    refine lv_icmp_ge (tgt := 188) hx hb dX9_opens_181 (by decide) (fun _ => ?_) (fun c346 => absurd (by decide) c346)
    refine lv_bipush (v := (-2)) hx hb dX9_opens_188 (by decide) ?_
    refine g_iast C0 G k339 0 rfl (by unfold vp_in; decide) dX9_opens_190 (fun H locs f347 hf347 G => ?_)
    have k348 : f347 v = some (.inl (cy 0, 6441, .inl (upd (upd (upd (upd (upd (upd (upd (upd (upd (upd (upd (upd (upd (upd (upd (upd (upd (upd (upd (upd (upd (upd (upd (upd (upd (upd (upd (upd (upd g 4 0) 6 0) 7 1) 8 (-1)) 9 (-1)) 10 0) 11 0) 12 (-1)) 13 ((upd (upd (upd (upd (upd (upd (upd (upd g 4 0) 6 0) 7 1) 8 (-1)) 9 (-1)) 10 0) 11 0) 12 (-1)) 3)) 18 ((upd (upd (upd (upd (upd (upd (upd (upd (upd g 4 0) 6 0) 7 1) 8 (-1)) 9 (-1)) 10 0) 11 0) 12 (-1)) 13 ((upd (upd (upd (upd (upd (upd (upd (upd g 4 0) 6 0) 7 1) 8 (-1)) 9 (-1)) 10 0) 11 0) 12 (-1)) 3)) 13)) 14 ((10 - 0) * (240 * (6 * ((upd (upd (upd (upd (upd (upd (upd (upd (upd (upd g 4 0) 6 0) 7 1) 8 (-1)) 9 (-1)) 10 0) 11 0) 12 (-1)) 13 ((upd (upd (upd (upd (upd (upd (upd (upd g 4 0) 6 0) 7 1) 8 (-1)) 9 (-1)) 10 0) 11 0) 12 (-1)) 3)) 18 ((upd (upd (upd (upd (upd (upd (upd (upd (upd g 4 0) 6 0) 7 1) 8 (-1)) 9 (-1)) 10 0) 11 0) 12 (-1)) 13 ((upd (upd (upd (upd (upd (upd (upd (upd g 4 0) 6 0) 7 1) 8 (-1)) 9 (-1)) 10 0) 11 0) 12 (-1)) 3)) 13)) 13)) - (6 * ((upd (upd (upd (upd (upd (upd (upd (upd (upd (upd g 4 0) 6 0) 7 1) 8 (-1)) 9 (-1)) 10 0) 11 0) 12 (-1)) 13 ((upd (upd (upd (upd (upd (upd (upd (upd g 4 0) 6 0) 7 1) 8 (-1)) 9 (-1)) 10 0) 11 0) 12 (-1)) 3)) 18 ((upd (upd (upd (upd (upd (upd (upd (upd (upd g 4 0) 6 0) 7 1) 8 (-1)) 9 (-1)) 10 0) 11 0) 12 (-1)) 13 ((upd (upd (upd (upd (upd (upd (upd (upd g 4 0) 6 0) 7 1) 8 (-1)) 9 (-1)) 10 0) 11 0) 12 (-1)) 3)) 13)) 13)) * (6 * ((upd (upd (upd (upd (upd (upd (upd (upd (upd (upd g 4 0) 6 0) 7 1) 8 (-1)) 9 (-1)) 10 0) 11 0) 12 (-1)) 13 ((upd (upd (upd (upd (upd (upd (upd (upd g 4 0) 6 0) 7 1) 8 (-1)) 9 (-1)) 10 0) 11 0) 12 (-1)) 3)) 18 ((upd (upd (upd (upd (upd (upd (upd (upd (upd g 4 0) 6 0) 7 1) 8 (-1)) 9 (-1)) 10 0) 11 0) 12 (-1)) 13 ((upd (upd (upd (upd (upd (upd (upd (upd g 4 0) 6 0) 7 1) 8 (-1)) 9 (-1)) 10 0) 11 0) 12 (-1)) 3)) 13)) 13))))) 34 0) 73 (-1)) 74 (-1)) 79 (-1)) 80 (-1)) 85 (-2)) 86 (-1)) 91 (-2)) 92 (-1)) 97 (-2)) 98 (-1)) 103 (-2)) 104 (-1)) 109 (-2)) 110 (-1)) 115 (-2)) 116 (-1)) 121 (-2)))) := hus hf347
    refine lv_aload_n hx hb dX9_opens_191 rfl (lv_at hl 1 rfl) ?_
    have k349 : f347 m = some (.inr (11, [.int c_th, .int c_re, .ref v, .ref im, .ref kp, .ref pa, .ref de, .ref ide, .int c_un, .int c_hi, .ref tx, .int c_tn, .int c_fa, .int c_rf, .ref pt, .int c_ps, .int c_pl, .int c_to, .ref so, .ref mo, .ref wh, .ref pf])) := hup hf347 (hne k342 k339 (by intro q; cases q)) k342
    refine g_get C0 G k349 rfl hiX9 2 (by decide) mf_X9_9 rfl dX9_opens_192 ?_
    refine lv_iload_n hx hb dX9_opens_195 rfl (lv_at hl 2 rfl) ?_
    refine lv_iload_n hx hb dX9_opens_196 rfl (lv_at hl 0 rfl) ?_
    refine lv_iconst (v := 5) hx hb dX9_opens_197 (by decide) ?_
    refine g_cI C0 G (g_runS C0 G (rest := [.ref v]) (k_X9_batterAt hfl 0 8 5) hY_X9_batterAt mm_X9_65 ms_X9_batterAt ⟨(Nat.le_of_ble_eq_true rfl), (Nat.le_of_ble_eq_true rfl)⟩ rfl hl.1 rfl (Nat.le_of_ble_eq_true rfl) dX9_opens_198 ⟨(Nat.le_of_ble_eq_true rfl), (Nat.le_of_ble_eq_true rfl)⟩) (kx_no rfl) (fun r352 u351 H locs hp350 G => ?_)
    obtain ⟨rfl, eu351⟩ := hp350
    rw [eu351] at G
    refine lv_topv (v := 122) (by decide) ?_
    refine lv_iconst (v := (-1)) hx hb dX9_opens_201 (by decide) ?_
    refine g_iast C0 G k348 0 rfl (by unfold vp_in; decide) dX9_opens_202 (fun H locs f353 hf353 G => ?_)
    have k354 : f353 v = some (.inl (cy 0, 6441, .inl (upd (upd (upd (upd (upd (upd (upd (upd (upd (upd (upd (upd (upd (upd (upd (upd (upd (upd (upd (upd (upd (upd (upd (upd (upd (upd (upd (upd (upd (upd g 4 0) 6 0) 7 1) 8 (-1)) 9 (-1)) 10 0) 11 0) 12 (-1)) 13 ((upd (upd (upd (upd (upd (upd (upd (upd g 4 0) 6 0) 7 1) 8 (-1)) 9 (-1)) 10 0) 11 0) 12 (-1)) 3)) 18 ((upd (upd (upd (upd (upd (upd (upd (upd (upd g 4 0) 6 0) 7 1) 8 (-1)) 9 (-1)) 10 0) 11 0) 12 (-1)) 13 ((upd (upd (upd (upd (upd (upd (upd (upd g 4 0) 6 0) 7 1) 8 (-1)) 9 (-1)) 10 0) 11 0) 12 (-1)) 3)) 13)) 14 ((10 - 0) * (240 * (6 * ((upd (upd (upd (upd (upd (upd (upd (upd (upd (upd g 4 0) 6 0) 7 1) 8 (-1)) 9 (-1)) 10 0) 11 0) 12 (-1)) 13 ((upd (upd (upd (upd (upd (upd (upd (upd g 4 0) 6 0) 7 1) 8 (-1)) 9 (-1)) 10 0) 11 0) 12 (-1)) 3)) 18 ((upd (upd (upd (upd (upd (upd (upd (upd (upd g 4 0) 6 0) 7 1) 8 (-1)) 9 (-1)) 10 0) 11 0) 12 (-1)) 13 ((upd (upd (upd (upd (upd (upd (upd (upd g 4 0) 6 0) 7 1) 8 (-1)) 9 (-1)) 10 0) 11 0) 12 (-1)) 3)) 13)) 13)) - (6 * ((upd (upd (upd (upd (upd (upd (upd (upd (upd (upd g 4 0) 6 0) 7 1) 8 (-1)) 9 (-1)) 10 0) 11 0) 12 (-1)) 13 ((upd (upd (upd (upd (upd (upd (upd (upd g 4 0) 6 0) 7 1) 8 (-1)) 9 (-1)) 10 0) 11 0) 12 (-1)) 3)) 18 ((upd (upd (upd (upd (upd (upd (upd (upd (upd g 4 0) 6 0) 7 1) 8 (-1)) 9 (-1)) 10 0) 11 0) 12 (-1)) 13 ((upd (upd (upd (upd (upd (upd (upd (upd g 4 0) 6 0) 7 1) 8 (-1)) 9 (-1)) 10 0) 11 0) 12 (-1)) 3)) 13)) 13)) * (6 * ((upd (upd (upd (upd (upd (upd (upd (upd (upd (upd g 4 0) 6 0) 7 1) 8 (-1)) 9 (-1)) 10 0) 11 0) 12 (-1)) 13 ((upd (upd (upd (upd (upd (upd (upd (upd g 4 0) 6 0) 7 1) 8 (-1)) 9 (-1)) 10 0) 11 0) 12 (-1)) 3)) 18 ((upd (upd (upd (upd (upd (upd (upd (upd (upd g 4 0) 6 0) 7 1) 8 (-1)) 9 (-1)) 10 0) 11 0) 12 (-1)) 13 ((upd (upd (upd (upd (upd (upd (upd (upd g 4 0) 6 0) 7 1) 8 (-1)) 9 (-1)) 10 0) 11 0) 12 (-1)) 3)) 13)) 13))))) 34 0) 73 (-1)) 74 (-1)) 79 (-1)) 80 (-1)) 85 (-2)) 86 (-1)) 91 (-2)) 92 (-1)) 97 (-2)) 98 (-1)) 103 (-2)) 104 (-1)) 109 (-2)) 110 (-1)) 115 (-2)) 116 (-1)) 121 (-2)) 122 (-1)))) := hus hf353
    refine lv_iinc (v := 9) (lv' := [(2, .int 9), (0, .ref m), (1, .int 0)]) hx hb dX9_opens_203 hl (k := 0) rfl (by exact (by decide)) (by decide) rfl (fun ls hl => ?_)
    refine lv_goto (tgt := 163) hx hb dX9_opens_206 (by decide) ?_
    refine lv_iload_n hx hb dX9_opens_163 rfl (lv_at hl 0 rfl) ?_
    refine lv_bipush (v := 11) hx hb dX9_opens_164 (by decide) ?_
    refine lv_icmp_ge (tgt := 209) hx hb dX9_opens_166 (by decide) (fun c356 => absurd c356 (by decide)) (fun _ => ?_)
    refine lv_aload_n hx hb dX9_opens_169 rfl (lv_at hl 1 rfl) ?_
    have k357 : f353 m = some (.inr (11, [.int c_th, .int c_re, .ref v, .ref im, .ref kp, .ref pa, .ref de, .ref ide, .int c_un, .int c_hi, .ref tx, .int c_tn, .int c_fa, .int c_rf, .ref pt, .int c_ps, .int c_pl, .int c_to, .ref so, .ref mo, .ref wh, .ref pf])) := hup hf353 (hne k349 k348 (by intro q; cases q)) k349
    refine g_get C0 G k357 rfl hiX9 2 (by decide) mf_X9_9 rfl dX9_opens_170 ?_
    refine lv_iload_n hx hb dX9_opens_173 rfl (lv_at hl 2 rfl) ?_
    refine lv_iload_n hx hb dX9_opens_174 rfl (lv_at hl 0 rfl) ?_
    refine lv_iconst (v := 4) hx hb dX9_opens_175 (by decide) ?_
    refine g_cI C0 G (g_runS C0 G (rest := [.ref v]) (k_X9_batterAt hfl 0 9 4) hY_X9_batterAt mm_X9_65 ms_X9_batterAt ⟨(Nat.le_of_ble_eq_true rfl), (Nat.le_of_ble_eq_true rfl)⟩ rfl hl.1 rfl (Nat.le_of_ble_eq_true rfl) dX9_opens_176 ⟨(Nat.le_of_ble_eq_true rfl), (Nat.le_of_ble_eq_true rfl)⟩) (kx_no rfl) (fun r360 u359 H locs hp358 G => ?_)
    obtain ⟨rfl, eu359⟩ := hp358
    rw [eu359] at G
    refine lv_topv (v := 127) (by decide) ?_
    refine lv_iload_n hx hb dX9_opens_179 rfl (lv_at hl 0 rfl) ?_
    refine lv_iconst (v := 2) hx hb dX9_opens_180 (by decide) ?_
    refine lv_icmp_ge (tgt := 188) hx hb dX9_opens_181 (by decide) (fun _ => ?_) (fun c361 => absurd (by decide) c361)
    refine lv_bipush (v := (-2)) hx hb dX9_opens_188 (by decide) ?_
    refine g_iast C0 G k354 0 rfl (by unfold vp_in; decide) dX9_opens_190 (fun H locs f362 hf362 G => ?_)
    have k363 : f362 v = some (.inl (cy 0, 6441, .inl (upd (upd (upd (upd (upd (upd (upd (upd (upd (upd (upd (upd (upd (upd (upd (upd (upd (upd (upd (upd (upd (upd (upd (upd (upd (upd (upd (upd (upd (upd (upd g 4 0) 6 0) 7 1) 8 (-1)) 9 (-1)) 10 0) 11 0) 12 (-1)) 13 ((upd (upd (upd (upd (upd (upd (upd (upd g 4 0) 6 0) 7 1) 8 (-1)) 9 (-1)) 10 0) 11 0) 12 (-1)) 3)) 18 ((upd (upd (upd (upd (upd (upd (upd (upd (upd g 4 0) 6 0) 7 1) 8 (-1)) 9 (-1)) 10 0) 11 0) 12 (-1)) 13 ((upd (upd (upd (upd (upd (upd (upd (upd g 4 0) 6 0) 7 1) 8 (-1)) 9 (-1)) 10 0) 11 0) 12 (-1)) 3)) 13)) 14 ((10 - 0) * (240 * (6 * ((upd (upd (upd (upd (upd (upd (upd (upd (upd (upd g 4 0) 6 0) 7 1) 8 (-1)) 9 (-1)) 10 0) 11 0) 12 (-1)) 13 ((upd (upd (upd (upd (upd (upd (upd (upd g 4 0) 6 0) 7 1) 8 (-1)) 9 (-1)) 10 0) 11 0) 12 (-1)) 3)) 18 ((upd (upd (upd (upd (upd (upd (upd (upd (upd g 4 0) 6 0) 7 1) 8 (-1)) 9 (-1)) 10 0) 11 0) 12 (-1)) 13 ((upd (upd (upd (upd (upd (upd (upd (upd g 4 0) 6 0) 7 1) 8 (-1)) 9 (-1)) 10 0) 11 0) 12 (-1)) 3)) 13)) 13)) - (6 * ((upd (upd (upd (upd (upd (upd (upd (upd (upd (upd g 4 0) 6 0) 7 1) 8 (-1)) 9 (-1)) 10 0) 11 0) 12 (-1)) 13 ((upd (upd (upd (upd (upd (upd (upd (upd g 4 0) 6 0) 7 1) 8 (-1)) 9 (-1)) 10 0) 11 0) 12 (-1)) 3)) 18 ((upd (upd (upd (upd (upd (upd (upd (upd (upd g 4 0) 6 0) 7 1) 8 (-1)) 9 (-1)) 10 0) 11 0) 12 (-1)) 13 ((upd (upd (upd (upd (upd (upd (upd (upd g 4 0) 6 0) 7 1) 8 (-1)) 9 (-1)) 10 0) 11 0) 12 (-1)) 3)) 13)) 13)) * (6 * ((upd (upd (upd (upd (upd (upd (upd (upd (upd (upd g 4 0) 6 0) 7 1) 8 (-1)) 9 (-1)) 10 0) 11 0) 12 (-1)) 13 ((upd (upd (upd (upd (upd (upd (upd (upd g 4 0) 6 0) 7 1) 8 (-1)) 9 (-1)) 10 0) 11 0) 12 (-1)) 3)) 18 ((upd (upd (upd (upd (upd (upd (upd (upd (upd g 4 0) 6 0) 7 1) 8 (-1)) 9 (-1)) 10 0) 11 0) 12 (-1)) 13 ((upd (upd (upd (upd (upd (upd (upd (upd g 4 0) 6 0) 7 1) 8 (-1)) 9 (-1)) 10 0) 11 0) 12 (-1)) 3)) 13)) 13))))) 34 0) 73 (-1)) 74 (-1)) 79 (-1)) 80 (-1)) 85 (-2)) 86 (-1)) 91 (-2)) 92 (-1)) 97 (-2)) 98 (-1)) 103 (-2)) 104 (-1)) 109 (-2)) 110 (-1)) 115 (-2)) 116 (-1)) 121 (-2)) 122 (-1)) 127 (-2)))) := hus hf362
    refine lv_aload_n hx hb dX9_opens_191 rfl (lv_at hl 1 rfl) ?_
    have k364 : f362 m = some (.inr (11, [.int c_th, .int c_re, .ref v, .ref im, .ref kp, .ref pa, .ref de, .ref ide, .int c_un, .int c_hi, .ref tx, .int c_tn, .int c_fa, .int c_rf, .ref pt, .int c_ps, .int c_pl, .int c_to, .ref so, .ref mo, .ref wh, .ref pf])) := hup hf362 (hne k357 k354 (by intro q; cases q)) k357
    refine g_get C0 G k364 rfl hiX9 2 (by decide) mf_X9_9 rfl dX9_opens_192 ?_
    refine lv_iload_n hx hb dX9_opens_195 rfl (lv_at hl 2 rfl) ?_
    refine lv_iload_n hx hb dX9_opens_196 rfl (lv_at hl 0 rfl) ?_
    refine lv_iconst (v := 5) hx hb dX9_opens_197 (by decide) ?_
    refine g_cI C0 G (g_runS C0 G (rest := [.ref v]) (k_X9_batterAt hfl 0 9 5) hY_X9_batterAt mm_X9_65 ms_X9_batterAt ⟨(Nat.le_of_ble_eq_true rfl), (Nat.le_of_ble_eq_true rfl)⟩ rfl hl.1 rfl (Nat.le_of_ble_eq_true rfl) dX9_opens_198 ⟨(Nat.le_of_ble_eq_true rfl), (Nat.le_of_ble_eq_true rfl)⟩) (kx_no rfl) (fun r367 u366 H locs hp365 G => ?_)
    obtain ⟨rfl, eu366⟩ := hp365
    rw [eu366] at G
    refine lv_topv (v := 128) (by decide) ?_
    refine lv_iconst (v := (-1)) hx hb dX9_opens_201 (by decide) ?_
    refine g_iast C0 G k363 0 rfl (by unfold vp_in; decide) dX9_opens_202 (fun H locs f368 hf368 G => ?_)
    have k369 : f368 v = some (.inl (cy 0, 6441, .inl (upd (upd (upd (upd (upd (upd (upd (upd (upd (upd (upd (upd (upd (upd (upd (upd (upd (upd (upd (upd (upd (upd (upd (upd (upd (upd (upd (upd (upd (upd (upd (upd g 4 0) 6 0) 7 1) 8 (-1)) 9 (-1)) 10 0) 11 0) 12 (-1)) 13 ((upd (upd (upd (upd (upd (upd (upd (upd g 4 0) 6 0) 7 1) 8 (-1)) 9 (-1)) 10 0) 11 0) 12 (-1)) 3)) 18 ((upd (upd (upd (upd (upd (upd (upd (upd (upd g 4 0) 6 0) 7 1) 8 (-1)) 9 (-1)) 10 0) 11 0) 12 (-1)) 13 ((upd (upd (upd (upd (upd (upd (upd (upd g 4 0) 6 0) 7 1) 8 (-1)) 9 (-1)) 10 0) 11 0) 12 (-1)) 3)) 13)) 14 ((10 - 0) * (240 * (6 * ((upd (upd (upd (upd (upd (upd (upd (upd (upd (upd g 4 0) 6 0) 7 1) 8 (-1)) 9 (-1)) 10 0) 11 0) 12 (-1)) 13 ((upd (upd (upd (upd (upd (upd (upd (upd g 4 0) 6 0) 7 1) 8 (-1)) 9 (-1)) 10 0) 11 0) 12 (-1)) 3)) 18 ((upd (upd (upd (upd (upd (upd (upd (upd (upd g 4 0) 6 0) 7 1) 8 (-1)) 9 (-1)) 10 0) 11 0) 12 (-1)) 13 ((upd (upd (upd (upd (upd (upd (upd (upd g 4 0) 6 0) 7 1) 8 (-1)) 9 (-1)) 10 0) 11 0) 12 (-1)) 3)) 13)) 13)) - (6 * ((upd (upd (upd (upd (upd (upd (upd (upd (upd (upd g 4 0) 6 0) 7 1) 8 (-1)) 9 (-1)) 10 0) 11 0) 12 (-1)) 13 ((upd (upd (upd (upd (upd (upd (upd (upd g 4 0) 6 0) 7 1) 8 (-1)) 9 (-1)) 10 0) 11 0) 12 (-1)) 3)) 18 ((upd (upd (upd (upd (upd (upd (upd (upd (upd g 4 0) 6 0) 7 1) 8 (-1)) 9 (-1)) 10 0) 11 0) 12 (-1)) 13 ((upd (upd (upd (upd (upd (upd (upd (upd g 4 0) 6 0) 7 1) 8 (-1)) 9 (-1)) 10 0) 11 0) 12 (-1)) 3)) 13)) 13)) * (6 * ((upd (upd (upd (upd (upd (upd (upd (upd (upd (upd g 4 0) 6 0) 7 1) 8 (-1)) 9 (-1)) 10 0) 11 0) 12 (-1)) 13 ((upd (upd (upd (upd (upd (upd (upd (upd g 4 0) 6 0) 7 1) 8 (-1)) 9 (-1)) 10 0) 11 0) 12 (-1)) 3)) 18 ((upd (upd (upd (upd (upd (upd (upd (upd (upd g 4 0) 6 0) 7 1) 8 (-1)) 9 (-1)) 10 0) 11 0) 12 (-1)) 13 ((upd (upd (upd (upd (upd (upd (upd (upd g 4 0) 6 0) 7 1) 8 (-1)) 9 (-1)) 10 0) 11 0) 12 (-1)) 3)) 13)) 13))))) 34 0) 73 (-1)) 74 (-1)) 79 (-1)) 80 (-1)) 85 (-2)) 86 (-1)) 91 (-2)) 92 (-1)) 97 (-2)) 98 (-1)) 103 (-2)) 104 (-1)) 109 (-2)) 110 (-1)) 115 (-2)) 116 (-1)) 121 (-2)) 122 (-1)) 127 (-2)) 128 (-1)))) := hus hf368
    refine lv_iinc (v := 10) (lv' := [(2, .int 10), (0, .ref m), (1, .int 0)]) hx hb dX9_opens_203 hl (k := 0) rfl (by exact (by decide)) (by decide) rfl (fun ls hl => ?_)
    refine lv_goto (tgt := 163) hx hb dX9_opens_206 (by decide) ?_
    refine lv_iload_n hx hb dX9_opens_163 rfl (lv_at hl 0 rfl) ?_
    refine lv_bipush (v := 11) hx hb dX9_opens_164 (by decide) ?_
    refine lv_icmp_ge (tgt := 209) hx hb dX9_opens_166 (by decide) (fun c371 => absurd c371 (by decide)) (fun _ => ?_)
    refine lv_aload_n hx hb dX9_opens_169 rfl (lv_at hl 1 rfl) ?_
    have k372 : f368 m = some (.inr (11, [.int c_th, .int c_re, .ref v, .ref im, .ref kp, .ref pa, .ref de, .ref ide, .int c_un, .int c_hi, .ref tx, .int c_tn, .int c_fa, .int c_rf, .ref pt, .int c_ps, .int c_pl, .int c_to, .ref so, .ref mo, .ref wh, .ref pf])) := hup hf368 (hne k364 k363 (by intro q; cases q)) k364
    refine g_get C0 G k372 rfl hiX9 2 (by decide) mf_X9_9 rfl dX9_opens_170 ?_
    refine lv_iload_n hx hb dX9_opens_173 rfl (lv_at hl 2 rfl) ?_
    refine lv_iload_n hx hb dX9_opens_174 rfl (lv_at hl 0 rfl) ?_
    refine lv_iconst (v := 4) hx hb dX9_opens_175 (by decide) ?_
    refine g_cI C0 G (g_runS C0 G (rest := [.ref v]) (k_X9_batterAt hfl 0 10 4) hY_X9_batterAt mm_X9_65 ms_X9_batterAt ⟨(Nat.le_of_ble_eq_true rfl), (Nat.le_of_ble_eq_true rfl)⟩ rfl hl.1 rfl (Nat.le_of_ble_eq_true rfl) dX9_opens_176 ⟨(Nat.le_of_ble_eq_true rfl), (Nat.le_of_ble_eq_true rfl)⟩) (kx_no rfl) (fun r375 u374 H locs hp373 G => ?_)
    obtain ⟨rfl, eu374⟩ := hp373
    rw [eu374] at G
    refine lv_topv (v := 133) (by decide) ?_
    refine lv_iload_n hx hb dX9_opens_179 rfl (lv_at hl 0 rfl) ?_
    refine lv_iconst (v := 2) hx hb dX9_opens_180 (by decide) ?_
    refine lv_icmp_ge (tgt := 188) hx hb dX9_opens_181 (by decide) (fun _ => ?_) (fun c376 => absurd (by decide) c376)
    refine lv_bipush (v := (-2)) hx hb dX9_opens_188 (by decide) ?_
    refine g_iast C0 G k369 0 rfl (by unfold vp_in; decide) dX9_opens_190 (fun H locs f377 hf377 G => ?_)
    have k378 : f377 v = some (.inl (cy 0, 6441, .inl (upd (upd (upd (upd (upd (upd (upd (upd (upd (upd (upd (upd (upd (upd (upd (upd (upd (upd (upd (upd (upd (upd (upd (upd (upd (upd (upd (upd (upd (upd (upd (upd (upd g 4 0) 6 0) 7 1) 8 (-1)) 9 (-1)) 10 0) 11 0) 12 (-1)) 13 ((upd (upd (upd (upd (upd (upd (upd (upd g 4 0) 6 0) 7 1) 8 (-1)) 9 (-1)) 10 0) 11 0) 12 (-1)) 3)) 18 ((upd (upd (upd (upd (upd (upd (upd (upd (upd g 4 0) 6 0) 7 1) 8 (-1)) 9 (-1)) 10 0) 11 0) 12 (-1)) 13 ((upd (upd (upd (upd (upd (upd (upd (upd g 4 0) 6 0) 7 1) 8 (-1)) 9 (-1)) 10 0) 11 0) 12 (-1)) 3)) 13)) 14 ((10 - 0) * (240 * (6 * ((upd (upd (upd (upd (upd (upd (upd (upd (upd (upd g 4 0) 6 0) 7 1) 8 (-1)) 9 (-1)) 10 0) 11 0) 12 (-1)) 13 ((upd (upd (upd (upd (upd (upd (upd (upd g 4 0) 6 0) 7 1) 8 (-1)) 9 (-1)) 10 0) 11 0) 12 (-1)) 3)) 18 ((upd (upd (upd (upd (upd (upd (upd (upd (upd g 4 0) 6 0) 7 1) 8 (-1)) 9 (-1)) 10 0) 11 0) 12 (-1)) 13 ((upd (upd (upd (upd (upd (upd (upd (upd g 4 0) 6 0) 7 1) 8 (-1)) 9 (-1)) 10 0) 11 0) 12 (-1)) 3)) 13)) 13)) - (6 * ((upd (upd (upd (upd (upd (upd (upd (upd (upd (upd g 4 0) 6 0) 7 1) 8 (-1)) 9 (-1)) 10 0) 11 0) 12 (-1)) 13 ((upd (upd (upd (upd (upd (upd (upd (upd g 4 0) 6 0) 7 1) 8 (-1)) 9 (-1)) 10 0) 11 0) 12 (-1)) 3)) 18 ((upd (upd (upd (upd (upd (upd (upd (upd (upd g 4 0) 6 0) 7 1) 8 (-1)) 9 (-1)) 10 0) 11 0) 12 (-1)) 13 ((upd (upd (upd (upd (upd (upd (upd (upd g 4 0) 6 0) 7 1) 8 (-1)) 9 (-1)) 10 0) 11 0) 12 (-1)) 3)) 13)) 13)) * (6 * ((upd (upd (upd (upd (upd (upd (upd (upd (upd (upd g 4 0) 6 0) 7 1) 8 (-1)) 9 (-1)) 10 0) 11 0) 12 (-1)) 13 ((upd (upd (upd (upd (upd (upd (upd (upd g 4 0) 6 0) 7 1) 8 (-1)) 9 (-1)) 10 0) 11 0) 12 (-1)) 3)) 18 ((upd (upd (upd (upd (upd (upd (upd (upd (upd g 4 0) 6 0) 7 1) 8 (-1)) 9 (-1)) 10 0) 11 0) 12 (-1)) 13 ((upd (upd (upd (upd (upd (upd (upd (upd g 4 0) 6 0) 7 1) 8 (-1)) 9 (-1)) 10 0) 11 0) 12 (-1)) 3)) 13)) 13))))) 34 0) 73 (-1)) 74 (-1)) 79 (-1)) 80 (-1)) 85 (-2)) 86 (-1)) 91 (-2)) 92 (-1)) 97 (-2)) 98 (-1)) 103 (-2)) 104 (-1)) 109 (-2)) 110 (-1)) 115 (-2)) 116 (-1)) 121 (-2)) 122 (-1)) 127 (-2)) 128 (-1)) 133 (-2)))) := hus hf377
    refine lv_aload_n hx hb dX9_opens_191 rfl (lv_at hl 1 rfl) ?_
    have k379 : f377 m = some (.inr (11, [.int c_th, .int c_re, .ref v, .ref im, .ref kp, .ref pa, .ref de, .ref ide, .int c_un, .int c_hi, .ref tx, .int c_tn, .int c_fa, .int c_rf, .ref pt, .int c_ps, .int c_pl, .int c_to, .ref so, .ref mo, .ref wh, .ref pf])) := hup hf377 (hne k372 k369 (by intro q; cases q)) k372
    refine g_get C0 G k379 rfl hiX9 2 (by decide) mf_X9_9 rfl dX9_opens_192 ?_
    refine lv_iload_n hx hb dX9_opens_195 rfl (lv_at hl 2 rfl) ?_
    refine lv_iload_n hx hb dX9_opens_196 rfl (lv_at hl 0 rfl) ?_
    refine lv_iconst (v := 5) hx hb dX9_opens_197 (by decide) ?_
    refine g_cI C0 G (g_runS C0 G (rest := [.ref v]) (k_X9_batterAt hfl 0 10 5) hY_X9_batterAt mm_X9_65 ms_X9_batterAt ⟨(Nat.le_of_ble_eq_true rfl), (Nat.le_of_ble_eq_true rfl)⟩ rfl hl.1 rfl (Nat.le_of_ble_eq_true rfl) dX9_opens_198 ⟨(Nat.le_of_ble_eq_true rfl), (Nat.le_of_ble_eq_true rfl)⟩) (kx_no rfl) (fun r382 u381 H locs hp380 G => ?_)
    obtain ⟨rfl, eu381⟩ := hp380
    rw [eu381] at G
    refine lv_topv (v := 134) (by decide) ?_
    refine lv_iconst (v := (-1)) hx hb dX9_opens_201 (by decide) ?_
    refine g_iast C0 G k378 0 rfl (by unfold vp_in; decide) dX9_opens_202 (fun H locs f383 hf383 G => ?_)
    have k384 : f383 v = some (.inl (cy 0, 6441, .inl (upd (upd (upd (upd (upd (upd (upd (upd (upd (upd (upd (upd (upd (upd (upd (upd (upd (upd (upd (upd (upd (upd (upd (upd (upd (upd (upd (upd (upd (upd (upd (upd (upd (upd g 4 0) 6 0) 7 1) 8 (-1)) 9 (-1)) 10 0) 11 0) 12 (-1)) 13 ((upd (upd (upd (upd (upd (upd (upd (upd g 4 0) 6 0) 7 1) 8 (-1)) 9 (-1)) 10 0) 11 0) 12 (-1)) 3)) 18 ((upd (upd (upd (upd (upd (upd (upd (upd (upd g 4 0) 6 0) 7 1) 8 (-1)) 9 (-1)) 10 0) 11 0) 12 (-1)) 13 ((upd (upd (upd (upd (upd (upd (upd (upd g 4 0) 6 0) 7 1) 8 (-1)) 9 (-1)) 10 0) 11 0) 12 (-1)) 3)) 13)) 14 ((10 - 0) * (240 * (6 * ((upd (upd (upd (upd (upd (upd (upd (upd (upd (upd g 4 0) 6 0) 7 1) 8 (-1)) 9 (-1)) 10 0) 11 0) 12 (-1)) 13 ((upd (upd (upd (upd (upd (upd (upd (upd g 4 0) 6 0) 7 1) 8 (-1)) 9 (-1)) 10 0) 11 0) 12 (-1)) 3)) 18 ((upd (upd (upd (upd (upd (upd (upd (upd (upd g 4 0) 6 0) 7 1) 8 (-1)) 9 (-1)) 10 0) 11 0) 12 (-1)) 13 ((upd (upd (upd (upd (upd (upd (upd (upd g 4 0) 6 0) 7 1) 8 (-1)) 9 (-1)) 10 0) 11 0) 12 (-1)) 3)) 13)) 13)) - (6 * ((upd (upd (upd (upd (upd (upd (upd (upd (upd (upd g 4 0) 6 0) 7 1) 8 (-1)) 9 (-1)) 10 0) 11 0) 12 (-1)) 13 ((upd (upd (upd (upd (upd (upd (upd (upd g 4 0) 6 0) 7 1) 8 (-1)) 9 (-1)) 10 0) 11 0) 12 (-1)) 3)) 18 ((upd (upd (upd (upd (upd (upd (upd (upd (upd g 4 0) 6 0) 7 1) 8 (-1)) 9 (-1)) 10 0) 11 0) 12 (-1)) 13 ((upd (upd (upd (upd (upd (upd (upd (upd g 4 0) 6 0) 7 1) 8 (-1)) 9 (-1)) 10 0) 11 0) 12 (-1)) 3)) 13)) 13)) * (6 * ((upd (upd (upd (upd (upd (upd (upd (upd (upd (upd g 4 0) 6 0) 7 1) 8 (-1)) 9 (-1)) 10 0) 11 0) 12 (-1)) 13 ((upd (upd (upd (upd (upd (upd (upd (upd g 4 0) 6 0) 7 1) 8 (-1)) 9 (-1)) 10 0) 11 0) 12 (-1)) 3)) 18 ((upd (upd (upd (upd (upd (upd (upd (upd (upd g 4 0) 6 0) 7 1) 8 (-1)) 9 (-1)) 10 0) 11 0) 12 (-1)) 13 ((upd (upd (upd (upd (upd (upd (upd (upd g 4 0) 6 0) 7 1) 8 (-1)) 9 (-1)) 10 0) 11 0) 12 (-1)) 3)) 13)) 13))))) 34 0) 73 (-1)) 74 (-1)) 79 (-1)) 80 (-1)) 85 (-2)) 86 (-1)) 91 (-2)) 92 (-1)) 97 (-2)) 98 (-1)) 103 (-2)) 104 (-1)) 109 (-2)) 110 (-1)) 115 (-2)) 116 (-1)) 121 (-2)) 122 (-1)) 127 (-2)) 128 (-1)) 133 (-2)) 134 (-1)))) := hus hf383
    refine lv_iinc (v := 11) (lv' := [(2, .int 11), (0, .ref m), (1, .int 0)]) hx hb dX9_opens_203 hl (k := 0) rfl (by exact (by decide)) (by decide) rfl (fun ls hl => ?_)
    refine lv_goto (tgt := 163) hx hb dX9_opens_206 (by decide) ?_
    refine lv_iload_n hx hb dX9_opens_163 rfl (lv_at hl 0 rfl) ?_
    refine lv_bipush (v := 11) hx hb dX9_opens_164 (by decide) ?_
    refine lv_icmp_ge (tgt := 209) hx hb dX9_opens_166 (by decide) (fun _ => ?_) (fun c386 => absurd (by decide) c386)
    refine lv_aload_n hx hb dX9_opens_209 rfl (lv_at hl 1 rfl) ?_
    have k387 : f383 m = some (.inr (11, [.int c_th, .int c_re, .ref v, .ref im, .ref kp, .ref pa, .ref de, .ref ide, .int c_un, .int c_hi, .ref tx, .int c_tn, .int c_fa, .int c_rf, .ref pt, .int c_ps, .int c_pl, .int c_to, .ref so, .ref mo, .ref wh, .ref pf])) := hup hf383 (hne k379 k378 (by intro q; cases q)) k379
    refine g_cV C0 G (g_runV C0 G (rest := []) (k_X9_share hfl k387 k384 (by first | exact h22 | simp [upd, h22] | simp [upd])) k387 rfl hY_X9_share mm_X9_69 mi_X9_share ml_X9_share ⟨(Nat.le_of_ble_eq_true rfl), (Nat.le_of_ble_eq_true rfl)⟩ rfl hl.1 rfl (Nat.le_of_ble_eq_true rfl) dX9_opens_210 ⟨(Nat.le_of_ble_eq_true rfl), (Nat.le_of_ble_eq_true rfl)⟩) (kx_no rfl) (fun u389 H locs hp388 G => ?_)
    exact g_vret C0 G hr dX9_opens_213 (Nat.le_of_ble_eq_true rfl) (Nat.le_of_ble_eq_true rfl) (by exact fun a9 e9 h7 h8 => hp388 _ _ (fun q => h7 (by simp only [List.mem_cons, List.not_mem_nil, or_false] at q ⊢; omega)) (hup hf383 (fun q => h7 (by rw [q]; simp)) (hup hf377 (fun q => h7 (by rw [q]; simp)) (hup hf368 (fun q => h7 (by rw [q]; simp)) (hup hf362 (fun q => h7 (by rw [q]; simp)) (hup hf353 (fun q => h7 (by rw [q]; simp)) (hup hf347 (fun q => h7 (by rw [q]; simp)) (hup hf338 (fun q => h7 (by rw [q]; simp)) (hup hf332 (fun q => h7 (by rw [q]; simp)) (hup hf323 (fun q => h7 (by rw [q]; simp)) (hup hf317 (fun q => h7 (by rw [q]; simp)) (hup hf308 (fun q => h7 (by rw [q]; simp)) (hup hf302 (fun q => h7 (by rw [q]; simp)) (hup hf293 (fun q => h7 (by rw [q]; simp)) (hup hf287 (fun q => h7 (by rw [q]; simp)) (hup hf278 (fun q => h7 (by rw [q]; simp)) (hup hf272 (fun q => h7 (by rw [q]; simp)) (hup hf263 (fun q => h7 (by rw [q]; simp)) (hup hf257 (fun q => h7 (by rw [q]; simp)) (hup hf248 (fun q => h7 (by rw [q]; simp)) (hup hf242 (fun q => h7 (by rw [q]; simp)) (hup hf233 (fun q => h7 (by rw [q]; simp)) (hup hf227 (fun q => h7 (by rw [q]; simp)) (hup hf219 (fun q => h7 (by rw [q]; simp)) (hup hf213 (fun q => h7 (by rw [q]; simp)) (hup hf29 (fun q => h7 (by rw [q]; simp)) (hup hf26 (fun q => h7 (by rw [q]; simp)) (hup hf22 (fun q => h7 (by rw [q]; simp)) (hup hf19 (fun q => h7 (by rw [q]; simp)) (hup hf16 (fun q => h7 (by rw [q]; simp)) (hup hf13 (fun q => h7 (by rw [q]; simp)) (hup hf10 (fun q => h7 (by rw [q]; simp)) (hup hf7 (fun q => h7 (by rw [q]; simp)) (hup hf4 (fun q => h7 (by rw [q]; simp)) (hup hf1 (fun q => h7 (by rw [q]; simp)) (h8))))))))))))))))))))))))))))))))))))
set_option maxRecDepth 100000 in
theorem k_X9_begins {l : Launch} (hfl : l.stackTraces = false) {D : va_G} {cy : Nat → ClassId} {f : Hf} {sz : Nat} {m v im kp pa de ide tx pt so mo wh pf : Nat} {c_th c_re c_un c_hi c_tn c_fa c_rf c_ps c_pl c_to : Int32} (a1 a2 a3 : Int32) (h_m : f m = some (.inr (11, [.int c_th, .int c_re, .ref v, .ref im, .ref kp, .ref pa, .ref de, .ref ide, .int c_un, .int c_hi, .ref tx, .int c_tn, .int c_fa, .int c_rf, .ref pt, .int c_ps, .int c_pl, .int c_to, .ref so, .ref mo, .ref wh, .ref pf]))) (h_v : f v = some (.inl (cy 0, 6441, .inl (fun _ => 0)))) : hMet l yX9_begins cX9_begins 5 none { frames := 2, cells := 0, slots := 0, locals := 46 } D (hTy cy) f sz [.ref m, .int a1, .int a2, .int a3] (hQv (fun u => hFrL f u [v]) D f sz) hNo := by
  refine h_enter (by decide) hfl (Nat.le_of_ble_eq_true rfl) ?_
  intro p9 e9 s9 m9 b9 t9 c9 hsz C0 hr hnm G ls hl
  have hx := C0.1.1
  have hb := C0.1.2.1
  have hl : lv_has ls 5 [(0, .ref m), (1, .int a1), (2, .int a2), (3, .int a3)] := hl
  refine lv_iconst (v := 0) hx hb dX9_begins_0 (by decide) ?_
  refine lv_istore (lv' := [(4, .int 0), (0, .ref m), (1, .int a1), (2, .int a2), (3, .int a3)]) hx hb dX9_begins_1 hl (by decide) rfl (fun ls hl => ?_)
  refine W.widen (k := 0) (n := 0) (Nat.le_of_ble_eq_true rfl) (Nat.le_of_ble_eq_true rfl) ?_
  have LOOP3 : ∀ (k : Nat) (i : Nat) (f1 : Hf) (H : Heap) (locs : List Loc) (ls : Array Slot), (i ≤ 6441) → (6441 - i < k) → (f1 = f) → f1 m = some (.inr (11, [.int c_th, .int c_re, .ref v, .ref im, .ref kp, .ref pa, .ref de, .ref ide, .int c_un, .int c_hi, .ref tx, .int c_tn, .int c_fa, .int c_rf, .ref pt, .int c_ps, .int c_pl, .int c_to, .ref so, .ref mo, .ref wh, .ref pf])) → f1 v = some (.inl (cy 0, 6441, .inl (fun _ => 0))) → hG D (hA f sz) f1 s9 H locs → lv_has ls 5 [(4, .int (nI i)), (0, .ref m), (1, .int a1), (2, .int a2), (3, .int a3)] → W p9 l e9 ({ frames := 2, cells := 0, slots := 0, locals := 46 } : Room) s9 m9 ([.ref m, .int a1, .int a2, .int a3] : List Value).toArray b9 t9 c9 H locs 0 0 (vx_MQ b9 (hQv (fun u => hFrL f u [v]) D f sz) (hPx hNo D f sz) ([.ref m, .int a1, .int a2, .int a3] : List Value).toArray s9 0 0 (hA f sz)) (F0 m9 3 ls []) := by
    intro k
    induction k with
    | zero =>
      intro i f1 H locs ls hi2 hk he h_m1 h_v1 G hl
      exact absurd hk (by omega)
    | succ k ih =>
      intro i f1 H locs ls hi2 hk he h_m1 h_v1 G hl
      refine lv_iload hx hb dX9_begins_3 (lv_at hl 0 rfl) ?_
      refine lv_sipush (v := 6441) hx hb dX9_begins_5 (by decide) ?_
      refine lv_icmp_ge (tgt := 25) hx hb dX9_begins_8 (by decide) (fun c1 => ?_) (fun c1 => ?_)
      · have n2 : 6441 ≤ i := (nI_leI (a := 6441) (b := i) (by omega) (by omega)).mp c1
        refine lv_aload_n hx hb dX9_begins_25 rfl (lv_at hl 1 rfl) ?_
        refine g_get C0 G h_m1 rfl hiX9 2 (by decide) mf_X9_9 rfl dX9_begins_26 ?_
        refine lv_iconst (v := 0) hx hb dX9_begins_29 (by decide) ?_
        refine lv_iconst (v := 1) hx hb dX9_begins_30 (by decide) ?_
        refine g_iast C0 G h_v1 0 rfl (by unfold vp_in; decide) dX9_begins_31 (fun H locs f3 hf3 G => ?_)
        have k4 : f3 v = some (.inl (cy 0, 6441, .inl (upd (fun _ => 0) 0 1))) := hus hf3
        refine lv_aload_n hx hb dX9_begins_32 rfl (lv_at hl 1 rfl) ?_
        have k5 : f3 m = some (.inr (11, [.int c_th, .int c_re, .ref v, .ref im, .ref kp, .ref pa, .ref de, .ref ide, .int c_un, .int c_hi, .ref tx, .int c_tn, .int c_fa, .int c_rf, .ref pt, .int c_ps, .int c_pl, .int c_to, .ref so, .ref mo, .ref wh, .ref pf])) := hup hf3 (hne h_m1 h_v1 (by intro q; cases q)) h_m1
        refine g_get C0 G k5 rfl hiX9 2 (by decide) mf_X9_9 rfl dX9_begins_33 ?_
        refine lv_iconst (v := 1) hx hb dX9_begins_36 (by decide) ?_
        refine lv_iload_n hx hb dX9_begins_37 rfl (lv_at hl 3 rfl) ?_
        refine g_iast C0 G k4 0 rfl (by unfold vp_in; decide) dX9_begins_38 (fun H locs f6 hf6 G => ?_)
        have k7 : f6 v = some (.inl (cy 0, 6441, .inl (upd (upd (fun _ => 0) 0 1) 1 a2))) := hus hf6
        refine lv_aload_n hx hb dX9_begins_39 rfl (lv_at hl 1 rfl) ?_
        have k8 : f6 m = some (.inr (11, [.int c_th, .int c_re, .ref v, .ref im, .ref kp, .ref pa, .ref de, .ref ide, .int c_un, .int c_hi, .ref tx, .int c_tn, .int c_fa, .int c_rf, .ref pt, .int c_ps, .int c_pl, .int c_to, .ref so, .ref mo, .ref wh, .ref pf])) := hup hf6 (hne k5 k4 (by intro q; cases q)) k5
        refine g_get C0 G k8 rfl hiX9 2 (by decide) mf_X9_9 rfl dX9_begins_40 ?_
        refine lv_iconst (v := 2) hx hb dX9_begins_43 (by decide) ?_
        refine lv_iload_n hx hb dX9_begins_44 rfl (lv_at hl 4 rfl) ?_
        refine g_iast C0 G k7 0 rfl (by unfold vp_in; decide) dX9_begins_45 (fun H locs f9 hf9 G => ?_)
        have k10 : f9 v = some (.inl (cy 0, 6441, .inl (upd (upd (upd (fun _ => 0) 0 1) 1 a2) 2 a3))) := hus hf9
        refine lv_aload_n hx hb dX9_begins_46 rfl (lv_at hl 1 rfl) ?_
        have k11 : f9 m = some (.inr (11, [.int c_th, .int c_re, .ref v, .ref im, .ref kp, .ref pa, .ref de, .ref ide, .int c_un, .int c_hi, .ref tx, .int c_tn, .int c_fa, .int c_rf, .ref pt, .int c_ps, .int c_pl, .int c_to, .ref so, .ref mo, .ref wh, .ref pf])) := hup hf9 (hne k8 k7 (by intro q; cases q)) k8
        refine g_get C0 G k11 rfl hiX9 2 (by decide) mf_X9_9 rfl dX9_begins_47 ?_
        refine lv_iconst (v := 3) hx hb dX9_begins_50 (by decide) ?_
        refine lv_iload_n hx hb dX9_begins_51 rfl (lv_at hl 2 rfl) ?_
        refine g_iast C0 G k10 0 rfl (by unfold vp_in; decide) dX9_begins_52 (fun H locs f12 hf12 G => ?_)
        have k13 : f12 v = some (.inl (cy 0, 6441, .inl (upd (upd (upd (upd (fun _ => 0) 0 1) 1 a2) 2 a3) 3 a1))) := hus hf12
        refine lv_aload_n hx hb dX9_begins_53 rfl (lv_at hl 1 rfl) ?_
        refine lv_iconst (v := 0) hx hb dX9_begins_54 (by decide) ?_
        have k14 : f12 m = some (.inr (11, [.int c_th, .int c_re, .ref v, .ref im, .ref kp, .ref pa, .ref de, .ref ide, .int c_un, .int c_hi, .ref tx, .int c_tn, .int c_fa, .int c_rf, .ref pt, .int c_ps, .int c_pl, .int c_to, .ref so, .ref mo, .ref wh, .ref pf])) := hup hf12 (hne k11 k10 (by intro q; cases q)) k11
        refine g_cV C0 G (g_runV C0 G (rest := []) (k_X9_opens hfl k14 k13 (by first | exact h22 | simp [upd, h22] | simp [upd])) k14 rfl hY_X9_opens mm_X9_72 mi_X9_opens ml_X9_opens ⟨(Nat.le_of_ble_eq_true rfl), (Nat.le_of_ble_eq_true rfl)⟩ rfl hl.1 rfl (Nat.le_of_ble_eq_true rfl) dX9_begins_55 ⟨(Nat.le_of_ble_eq_true rfl), (Nat.le_of_ble_eq_true rfl)⟩) (kx_no rfl) (fun u16 H locs hp15 G => ?_)
        exact g_vret C0 G hr dX9_begins_58 (Nat.le_of_ble_eq_true rfl) (Nat.le_of_ble_eq_true rfl) (by exact fun a9 e9 h7 h8 => hp15 _ _ (fun q => h7 (by simp only [List.mem_cons, List.not_mem_nil, or_false] at q ⊢; omega)) (hup hf12 (fun q => h7 (by rw [q]; simp)) (hup hf9 (fun q => h7 (by rw [q]; simp)) (hup hf6 (fun q => h7 (by rw [q]; simp)) (hup hf3 (fun q => h7 (by rw [q]; simp)) ((by rw [he]; exact h8)))))))
      · have n17 : ¬ 6441 ≤ i := fun q => c1 ((nI_leI (a := 6441) (b := i) (by omega) (by omega)).mpr q)
        refine lv_aload_n hx hb dX9_begins_11 rfl (lv_at hl 1 rfl) ?_
        refine g_get C0 G h_m1 rfl hiX9 2 (by decide) mf_X9_9 rfl dX9_begins_12 ?_
        refine lv_iload hx hb dX9_begins_15 (lv_at hl 0 rfl) ?_
        refine lv_iconst (v := 0) hx hb dX9_begins_17 (by decide) ?_
        refine g_iast C0 G h_v1 0 rfl (vp_in_nI (by omega) (by omega)) dX9_begins_18 (fun H locs f18 hf18 G => ?_)
        have k19 : f18 v = some (.inl (cy 0, 6441, .inl (upd (fun _ => 0) (nI i).toNatClampNeg 0))) := hus hf18
        refine lv_iinc (v := nI (i + 1)) (lv' := [(4, .int (nI (i + 1))), (0, .ref m), (1, .int a1), (2, .int a2), (3, .int a3)]) hx hb dX9_begins_19 hl (k := 0) rfl (by exact (nI_add _ _)) (by decide) rfl (fun ls hl => ?_)
        refine lv_goto (tgt := 3) hx hb dX9_begins_22 (by decide) ?_
        have e21 : f18 = f := by rw [hf18, upd0, he, hupid h_v]
        exact ih (i + 1) f18 _ _ _ (by omega) (by omega) e21 (by rw [e21]; exact h_m) (by rw [e21]; exact h_v) G (lv_sub hl [0, 1, 2, 3, 4] rfl)
  exact LOOP3 6442 0 f _ _ _ (by omega) (by omega) rfl h_m h_v G (lv_sub hl [0, 1, 2, 3, 4] rfl)
set_option maxRecDepth 100000 in
theorem k_X9_begin {l : Launch} (hfl : l.stackTraces = false) {D : va_G} {cy : Nat → ClassId} {f : Hf} {sz : Nat} {m v im kp pa de ide tx pt so mo wh pf : Nat} (a1 a2 a3 : Int32) (h_m : f m = some (.inr (11, [.int 0, .int 0, .ref v, .ref im, .ref kp, .ref pa, .ref de, .ref ide, .int 0, .int 0, .ref tx, .int 0, .int (-1), .int (-1), .ref pt, .int 0, .int 0, .int 0, .ref so, .ref mo, .ref wh, .ref pf]))) (h_v : f v = some (.inl (cy 0, 6441, .inl (fun _ => 0)))) : hMet l yX9_begin cX9_begin 4 (some .int) { frames := 3, cells := 0, slots := 0, locals := 70 } D (hTy cy) f sz [.ref m, .int a1, .int a2, .int a3] (hQi (fun r u => (((1 ≤ a1 ∧ a1 ≤ 20) ∧ (1 ≤ a2 ∧ a2 ≤ 2) ∧ (0 ≤ a3 ∧ a3 ≤ 1)) ∧ hT u m 0 ∧ r = (a1 + 4) / 5 ∧ hFrL f u [m, v]) ∨ (¬ ((1 ≤ a1 ∧ a1 ≤ 20) ∧ (1 ≤ a2 ∧ a2 ≤ 2) ∧ (0 ≤ a3 ∧ a3 ≤ 1)) ∧ hT u m 1)) D f sz) hNo := by
  refine h_enter (by decide) hfl (Nat.le_of_ble_eq_true rfl) ?_
  intro p9 e9 s9 m9 b9 t9 c9 hsz C0 hr hnm G ls hl
  have hx := C0.1.1
  have hb := C0.1.2.1
  have hl : lv_has ls 4 [(0, .ref m), (1, .int a1), (2, .int a2), (3, .int a3)] := hl
  have hmv : m ≠ v := hne h_m h_v (by intro q; cases q)
  refine lv_aload_n hx hb dX9_begin_0 rfl (lv_at hl 0 rfl) ?_
  refine lv_iload_n hx hb dX9_begin_1 rfl (lv_at hl 1 rfl) ?_
  refine lv_iconst (v := 1) hx hb dX9_begin_2 (by decide) ?_
  refine lv_bipush (v := 20) hx hb dX9_begin_3 (by decide) ?_
  refine g_cI C0 G (g_runS C0 G (rest := [.ref m]) (k_X9_isIn hfl a1 1 20) hY_X9_isIn mm_X9_76 ms_X9_isIn ⟨(Nat.le_of_ble_eq_true rfl), (Nat.le_of_ble_eq_true rfl)⟩ rfl hl.1 rfl (Nat.le_of_ble_eq_true rfl) dX9_begin_5 ⟨(Nat.le_of_ble_eq_true rfl), (Nat.le_of_ble_eq_true rfl)⟩) (kx_no rfl) (fun r3 u2 H locs hp1 G => ?_)
  obtain ⟨b4, eu2⟩ := hp1
  rw [eu2] at G
  rcases b4 with ⟨rfl, c5⟩ | ⟨rfl, c5⟩
  · refine lv_if_eq (tgt := 33) hx hb dX9_begin_8 (by decide) (fun c6 => absurd c6 (by decide)) (fun _ => ?_)
    refine lv_iload_n hx hb dX9_begin_11 rfl (lv_at hl 2 rfl) ?_
    refine lv_iconst (v := 1) hx hb dX9_begin_12 (by decide) ?_
    refine lv_iconst (v := 2) hx hb dX9_begin_13 (by decide) ?_
    refine g_cI C0 G (g_runS C0 G (rest := [.ref m]) (k_X9_isIn hfl a2 1 2) hY_X9_isIn mm_X9_76 ms_X9_isIn ⟨(Nat.le_of_ble_eq_true rfl), (Nat.le_of_ble_eq_true rfl)⟩ rfl hl.1 rfl (Nat.le_of_ble_eq_true rfl) dX9_begin_14 ⟨(Nat.le_of_ble_eq_true rfl), (Nat.le_of_ble_eq_true rfl)⟩) (kx_no rfl) (fun r9 u8 H locs hp7 G => ?_)
    obtain ⟨b10, eu8⟩ := hp7
    rw [eu8] at G
    rcases b10 with ⟨rfl, c11⟩ | ⟨rfl, c11⟩
    · refine lv_if_eq (tgt := 33) hx hb dX9_begin_17 (by decide) (fun c12 => absurd c12 (by decide)) (fun _ => ?_)
      refine lv_iload_n hx hb dX9_begin_20 rfl (lv_at hl 3 rfl) ?_
      refine lv_iconst (v := 0) hx hb dX9_begin_21 (by decide) ?_
      refine lv_iconst (v := 1) hx hb dX9_begin_22 (by decide) ?_
      refine g_cI C0 G (g_runS C0 G (rest := [.ref m]) (k_X9_isIn hfl a3 0 1) hY_X9_isIn mm_X9_76 ms_X9_isIn ⟨(Nat.le_of_ble_eq_true rfl), (Nat.le_of_ble_eq_true rfl)⟩ rfl hl.1 rfl (Nat.le_of_ble_eq_true rfl) dX9_begin_23 ⟨(Nat.le_of_ble_eq_true rfl), (Nat.le_of_ble_eq_true rfl)⟩) (kx_no rfl) (fun r15 u14 H locs hp13 G => ?_)
      obtain ⟨b16, eu14⟩ := hp13
      rw [eu14] at G
      rcases b16 with ⟨rfl, c17⟩ | ⟨rfl, c17⟩
      · refine lv_if_eq (tgt := 33) hx hb dX9_begin_26 (by decide) (fun c18 => absurd c18 (by decide)) (fun _ => ?_)
        refine lv_iconst (v := 0) hx hb dX9_begin_29 (by decide) ?_
        refine lv_goto (tgt := 34) hx hb dX9_begin_30 (by decide) ?_
        refine g_put C0 G h_m rfl hiX9 tyX9 tyX9_ok nmX9 0 (by decide) mf_X9_55 rfl rfl rfl rfl (Nat.le_of_ble_eq_true rfl) dX9_begin_34 (fun H locs f19 hf19 G => ?_)
        have k20 : f19 m = some (.inr (11, [.int 0, .int 0, .ref v, .ref im, .ref kp, .ref pa, .ref de, .ref ide, .int 0, .int 0, .ref tx, .int 0, .int (-1), .int (-1), .ref pt, .int 0, .int 0, .int 0, .ref so, .ref mo, .ref wh, .ref pf])) := hus hf19
        refine lv_aload_n hx hb dX9_begin_37 rfl (lv_at hl 0 rfl) ?_
        refine g_get C0 G k20 rfl hiX9 0 (by decide) mf_X9_55 rfl dX9_begin_38 ?_
        refine lv_iconst (v := 1) hx hb dX9_begin_41 (by decide) ?_
        refine lv_icmp_ne (tgt := 47) hx hb dX9_begin_42 (by decide) (fun _ => ?_) (fun c21 => absurd c21 (by decide))
        refine lv_aload_n hx hb dX9_begin_47 rfl (lv_at hl 0 rfl) ?_
        refine lv_iload_n hx hb dX9_begin_48 rfl (lv_at hl 1 rfl) ?_
        refine lv_iload_n hx hb dX9_begin_49 rfl (lv_at hl 2 rfl) ?_
        refine lv_iload_n hx hb dX9_begin_50 rfl (lv_at hl 3 rfl) ?_
        have k22 : f19 v = some (.inl (cy 0, 6441, .inl (fun _ => 0))) := hup hf19 (hne h_v h_m (by intro q; cases q)) h_v
        refine g_cV C0 G (g_runV C0 G (rest := []) (k_X9_begins hfl a1 a2 a3 k20 k22) k20 rfl hY_X9_begins mm_X9_80 mi_X9_begins ml_X9_begins ⟨(Nat.le_of_ble_eq_true rfl), (Nat.le_of_ble_eq_true rfl)⟩ rfl hl.1 rfl (Nat.le_of_ble_eq_true rfl) dX9_begin_51 ⟨(Nat.le_of_ble_eq_true rfl), (Nat.le_of_ble_eq_true rfl)⟩) (kx_no rfl) (fun u24 H locs hp23 G => ?_)
        refine lv_aload_n hx hb dX9_begin_54 rfl (lv_at hl 0 rfl) ?_
        refine lv_iconst (v := 0) hx hb dX9_begin_55 (by decide) ?_
        have k25 : u24 m = some (.inr (11, [.int 0, .int 0, .ref v, .ref im, .ref kp, .ref pa, .ref de, .ref ide, .int 0, .int 0, .ref tx, .int 0, .int (-1), .int (-1), .ref pt, .int 0, .int 0, .int 0, .ref so, .ref mo, .ref wh, .ref pf])) := hp23 _ _ (by simp only [List.mem_cons, List.not_mem_nil, or_false]; intro q; rcases q with q <;> exact absurd q (by omega)) k20
        refine g_put C0 G k25 rfl hiX9 tyX9 tyX9_ok nmX9 8 (by decide) mf_X9_84 rfl rfl rfl rfl (Nat.le_of_ble_eq_true rfl) dX9_begin_56 (fun H locs f26 hf26 G => ?_)
        have k27 : f26 m = some (.inr (11, [.int 0, .int 0, .ref v, .ref im, .ref kp, .ref pa, .ref de, .ref ide, .int 0, .int 0, .ref tx, .int 0, .int (-1), .int (-1), .ref pt, .int 0, .int 0, .int 0, .ref so, .ref mo, .ref wh, .ref pf])) := hus hf26
        refine lv_iload_n hx hb dX9_begin_59 rfl (lv_at hl 1 rfl) ?_
        refine g_cI C0 G (g_runS C0 G (rest := []) (k_X9_fifth hfl a1) hY_X9_fifth mm_X9_87 ms_X9_fifth ⟨(Nat.le_of_ble_eq_true rfl), (Nat.le_of_ble_eq_true rfl)⟩ rfl hl.1 rfl (Nat.le_of_ble_eq_true rfl) dX9_begin_60 ⟨(Nat.le_of_ble_eq_true rfl), (Nat.le_of_ble_eq_true rfl)⟩) (kx_no rfl) (fun r30 u29 H locs hp28 G => ?_)
        obtain ⟨rfl, eu29⟩ := hp28
        rw [eu29] at G
        exact g_iret C0 G hr dX9_begin_63 (Nat.le_of_ble_eq_true rfl) (Nat.le_of_ble_eq_true rfl) (by exact Or.inl ⟨⟨by assumption, by assumption, by assumption⟩, ⟨_, k27⟩, rfl, fun a9 e9 h7 h8 => hup hf26 (fun q => h7 (by rw [q]; simp)) (hp23 _ _ (fun q => h7 (by simp only [List.mem_cons, List.not_mem_nil, or_false] at q ⊢; omega)) (hup hf19 (fun q => h7 (by rw [q]; simp)) (h8)))⟩)
      · refine lv_if_eq (tgt := 33) hx hb dX9_begin_26 (by decide) (fun _ => ?_) (fun c31 => absurd (by decide) c31)
        refine lv_iconst (v := 1) hx hb dX9_begin_33 (by decide) ?_
        refine g_put C0 G h_m rfl hiX9 tyX9 tyX9_ok nmX9 0 (by decide) mf_X9_55 rfl rfl rfl rfl (Nat.le_of_ble_eq_true rfl) dX9_begin_34 (fun H locs f32 hf32 G => ?_)
        have k33 : f32 m = some (.inr (11, [.int 1, .int 0, .ref v, .ref im, .ref kp, .ref pa, .ref de, .ref ide, .int 0, .int 0, .ref tx, .int 0, .int (-1), .int (-1), .ref pt, .int 0, .int 0, .int 0, .ref so, .ref mo, .ref wh, .ref pf])) := hus hf32
        refine lv_aload_n hx hb dX9_begin_37 rfl (lv_at hl 0 rfl) ?_
        refine g_get C0 G k33 rfl hiX9 0 (by decide) mf_X9_55 rfl dX9_begin_38 ?_
        refine lv_iconst (v := 1) hx hb dX9_begin_41 (by decide) ?_
        refine lv_icmp_ne (tgt := 47) hx hb dX9_begin_42 (by decide) (fun c34 => absurd (by decide) c34) (fun _ => ?_)
        refine lv_iconst (v := 0) hx hb dX9_begin_45 (by decide) ?_
        exact g_iret C0 G hr dX9_begin_46 (Nat.le_of_ble_eq_true rfl) (Nat.le_of_ble_eq_true rfl) (by exact Or.inr ⟨(by first | (simp_all; done) | (simp only [Int32.lt_iff_toInt_lt, Int32.le_iff_toInt_le] at *; omega)), ⟨_, k33⟩⟩)
    · refine lv_if_eq (tgt := 33) hx hb dX9_begin_17 (by decide) (fun _ => ?_) (fun c35 => absurd (by decide) c35)
      refine lv_iconst (v := 1) hx hb dX9_begin_33 (by decide) ?_
      refine g_put C0 G h_m rfl hiX9 tyX9 tyX9_ok nmX9 0 (by decide) mf_X9_55 rfl rfl rfl rfl (Nat.le_of_ble_eq_true rfl) dX9_begin_34 (fun H locs f36 hf36 G => ?_)
      have k37 : f36 m = some (.inr (11, [.int 1, .int 0, .ref v, .ref im, .ref kp, .ref pa, .ref de, .ref ide, .int 0, .int 0, .ref tx, .int 0, .int (-1), .int (-1), .ref pt, .int 0, .int 0, .int 0, .ref so, .ref mo, .ref wh, .ref pf])) := hus hf36
      refine lv_aload_n hx hb dX9_begin_37 rfl (lv_at hl 0 rfl) ?_
      refine g_get C0 G k37 rfl hiX9 0 (by decide) mf_X9_55 rfl dX9_begin_38 ?_
      refine lv_iconst (v := 1) hx hb dX9_begin_41 (by decide) ?_
      refine lv_icmp_ne (tgt := 47) hx hb dX9_begin_42 (by decide) (fun c38 => absurd (by decide) c38) (fun _ => ?_)
      refine lv_iconst (v := 0) hx hb dX9_begin_45 (by decide) ?_
      exact g_iret C0 G hr dX9_begin_46 (Nat.le_of_ble_eq_true rfl) (Nat.le_of_ble_eq_true rfl) (by exact Or.inr ⟨(by first | (simp_all; done) | (simp only [Int32.lt_iff_toInt_lt, Int32.le_iff_toInt_le] at *; omega)), ⟨_, k37⟩⟩)
  · refine lv_if_eq (tgt := 33) hx hb dX9_begin_8 (by decide) (fun _ => ?_) (fun c39 => absurd (by decide) c39)
    refine lv_iconst (v := 1) hx hb dX9_begin_33 (by decide) ?_
    refine g_put C0 G h_m rfl hiX9 tyX9 tyX9_ok nmX9 0 (by decide) mf_X9_55 rfl rfl rfl rfl (Nat.le_of_ble_eq_true rfl) dX9_begin_34 (fun H locs f40 hf40 G => ?_)
    have k41 : f40 m = some (.inr (11, [.int 1, .int 0, .ref v, .ref im, .ref kp, .ref pa, .ref de, .ref ide, .int 0, .int 0, .ref tx, .int 0, .int (-1), .int (-1), .ref pt, .int 0, .int 0, .int 0, .ref so, .ref mo, .ref wh, .ref pf])) := hus hf40
    refine lv_aload_n hx hb dX9_begin_37 rfl (lv_at hl 0 rfl) ?_
    refine g_get C0 G k41 rfl hiX9 0 (by decide) mf_X9_55 rfl dX9_begin_38 ?_
    refine lv_iconst (v := 1) hx hb dX9_begin_41 (by decide) ?_
    refine lv_icmp_ne (tgt := 47) hx hb dX9_begin_42 (by decide) (fun c42 => absurd (by decide) c42) (fun _ => ?_)
    refine lv_iconst (v := 0) hx hb dX9_begin_45 (by decide) ?_
    exact g_iret C0 G hr dX9_begin_46 (Nat.le_of_ble_eq_true rfl) (Nat.le_of_ble_eq_true rfl) (by exact Or.inr ⟨(by first | (simp_all; done) | (simp only [Int32.lt_iff_toInt_lt, Int32.le_iff_toInt_le] at *; omega)), ⟨_, k41⟩⟩)
