set_option maxRecDepth 100000 in
theorem k_X2_init {l : Launch} (hfl : l.stackTraces = false) {D : va_G} {cy : Nat → ClassId} {f : Hf} {sz : Nat} {th : Nat} (h_t : f th = some (.inr (4, [.null, .int 0, .int 0, .int 0, .int 0, .int 0]))) : hMet l yX2_init cX2_init 2 none { frames := 3, cells := 53, slots := 17376, locals := 56 } D (hTy cy) f sz [.ref th] (hQv (fun u => ∃ al i0 i1 i2 i3 i4 i5 i6 i7 i8 i9 i10 i11 i12 g0, sz ≤ al ∧ al < i0 ∧ i0 < i1 ∧ i1 < i2 ∧ i2 < i3 ∧ i3 < i4 ∧ i4 < i5 ∧ i5 < i6 ∧ i6 < i7 ∧ i7 < i8 ∧ i8 < i9 ∧ i9 < i10 ∧ i10 < i11 ∧ i11 < i12 ∧ u al = some (.inl (cy 3, 4, .inr (.inr (.inr (.inr g0))))) ∧ u i0 = some (.inr (2, [.ref i1, .ref i3, .ref i5, .ref i7, .ref i9, .ref i11, .int 0, .int 0, .int 1, .int (-1), .int 0])) ∧ u i1 = some (.inr (8, [.int 8, .ref i2, .int 0])) ∧ u i2 = some (.inl (cy 0, 8, .inl (fun _ => 0))) ∧ u i3 = some (.inr (8, [.int 6, .ref i4, .int 0])) ∧ u i4 = some (.inl (cy 0, 66, .inl (fun _ => 0))) ∧ u i5 = some (.inr (8, [.int 7, .ref i6, .int 0])) ∧ u i6 = some (.inl (cy 0, 77, .inl (fun _ => 0))) ∧ u i7 = some (.inr (8, [.int 8, .ref i8, .int 0])) ∧ u i8 = some (.inl (cy 0, 4104, .inl (fun _ => 0))) ∧ u i9 = some (.inr (8, [.int 3, .ref i10, .int 0])) ∧ u i10 = some (.inl (cy 0, 33, .inl (fun _ => 0))) ∧ u i11 = some (.inr (5, [.ref i12, .int 0, .int 0, .int 0, .int (-1), .int (-1), .int 0, .int 0, .int 0])) ∧ u i12 = some (.inl (cy 0, 20, .inl (fun _ => 0))) ∧ g0 0 = some i0 ∧ u th = some (.inr (4, [.ref al, .int 0, .int 0, .int 0, .int 0, .int 0])) ∧ hFr f u th) D f sz) hNo := by
  refine h_enter (by decide) hfl (Nat.le_of_ble_eq_true rfl) ?_
  intro p9 e9 s9 m9 b9 t9 c9 hsz C0 hr hnm G ls hl
  have hx := C0.1.1
  have hb := C0.1.2.1
  have Gz := G
  have hin : t9.name = "<init>" := hnm
  have hl : lv_has ls 2 [(0, .ref th)] := hl
  refine lv_aload_n hx hb dX2_init_0 rfl (lv_at hl 0 rfl) ?_
  refine W.objInit hx hb C0.1.2.2.2.1 (C0.2.2.2.1.1 _ mm_X2_3 rfl _) (C0.2.2.2.1.1 _ mi_java_lang_Object__init____V rfl _) (C0.2.2.2.1.1 _ mc_objinit rfl _) rfl (by rw [C0.1.2.2.1]; exact hl.1) rfl dX2_init_1 (Nat.le_of_ble_eq_true rfl) (Nat.le_of_ble_eq_true rfl) ?_
  refine W.eq (g2 := F0 m9 4 ls []) rfl ?_
  refine lv_aload_n hx hb dX2_init_4 rfl (lv_at hl 0 rfl) ?_
  refine lv_iconst (v := 4) hx hb dX2_init_5 (by decide) ?_
  have zq1 := G.2.1
  have z3 : th < _ := (G.1 _ _ h_t).1.lt
  refine g_newq C0 G mk_X2_9 (C0.2.2.2.1.2.2.2.1) 3 rfl (n := 4) (N' := 4) (by decide) rfl (Nat.le_of_ble_eq_true rfl) (Nat.le_of_ble_eq_true rfl) (Nat.le_of_ble_eq_true rfl) dX2_init_6 (fun q1 H f2 nq1 hf2 G hzq1 => ?_)
  have k4 : f2 q1 = some (.inl (cy 3, 4, .inr (.inr (.inr (.inr (fun _ => none)))))) := hus hf2
  have k5 : f2 th = some (.inr (4, [.null, .int 0, .int 0, .int 0, .int 0, .int 0])) := hup hf2 (by omega) h_t
  refine g_putF C0 G hin k5 rfl hiX2 tyX2 tyX2_ok nmX2 0 (by decide) mf_X2_11 rfl rfl rfl rfl rfl (Nat.le_of_ble_eq_true rfl) dX2_init_9 (fun H locs f6 hf6 G => ?_)
  have k7 : f6 th = some (.inr (4, [.ref q1, .int 0, .int 0, .int 0, .int 0, .int 0])) := hus hf6
  refine lv_aload_n hx hb dX2_init_12 rfl (lv_at hl 0 rfl) ?_
  refine lv_iconst (v := 0) hx hb dX2_init_13 (by decide) ?_
  refine g_put C0 G k7 rfl hiX2 tyX2 tyX2_ok nmX2 1 (by decide) mf_X2_17 rfl rfl rfl rfl (Nat.le_of_ble_eq_true rfl) dX2_init_14 (fun H locs f8 hf8 G => ?_)
  have k9 : f8 th = some (.inr (4, [.ref q1, .int 0, .int 0, .int 0, .int 0, .int 0])) := hus hf8
  refine lv_aload_n hx hb dX2_init_17 rfl (lv_at hl 0 rfl) ?_
  refine lv_iconst (v := 0) hx hb dX2_init_18 (by decide) ?_
  refine g_put C0 G k9 rfl hiX2 tyX2 tyX2_ok nmX2 2 (by decide) mf_X2_21 rfl rfl rfl rfl (Nat.le_of_ble_eq_true rfl) dX2_init_19 (fun H locs f10 hf10 G => ?_)
  have k11 : f10 th = some (.inr (4, [.ref q1, .int 0, .int 0, .int 0, .int 0, .int 0])) := hus hf10
  refine lv_aload_n hx hb dX2_init_22 rfl (lv_at hl 0 rfl) ?_
  refine lv_iconst (v := 0) hx hb dX2_init_23 (by decide) ?_
  refine g_put C0 G k11 rfl hiX2 tyX2 tyX2_ok nmX2 3 (by decide) mf_X2_24 rfl rfl rfl rfl (Nat.le_of_ble_eq_true rfl) dX2_init_24 (fun H locs f12 hf12 G => ?_)
  have k13 : f12 th = some (.inr (4, [.ref q1, .int 0, .int 0, .int 0, .int 0, .int 0])) := hus hf12
  refine lv_aload_n hx hb dX2_init_27 rfl (lv_at hl 0 rfl) ?_
  refine lv_iconst (v := 0) hx hb dX2_init_28 (by decide) ?_
  refine g_put C0 G k13 rfl hiX2 tyX2 tyX2_ok nmX2 4 (by decide) mf_X2_28 rfl rfl rfl rfl (Nat.le_of_ble_eq_true rfl) dX2_init_29 (fun H locs f14 hf14 G => ?_)
  have k15 : f14 th = some (.inr (4, [.ref q1, .int 0, .int 0, .int 0, .int 0, .int 0])) := hus hf14
  refine lv_aload_n hx hb dX2_init_32 rfl (lv_at hl 0 rfl) ?_
  refine lv_iconst (v := 0) hx hb dX2_init_33 (by decide) ?_
  refine g_put C0 G k15 rfl hiX2 tyX2 tyX2_ok nmX2 5 (by decide) mf_X2_31 rfl rfl rfl rfl (Nat.le_of_ble_eq_true rfl) dX2_init_34 (fun H locs f16 hf16 G => ?_)
  have k17 : f16 th = some (.inr (4, [.ref q1, .int 0, .int 0, .int 0, .int 0, .int 0])) := hus hf16
  refine lv_iconst (v := 0) hx hb dX2_init_37 (by decide) ?_
  refine lv_istore_n (lv' := [(1, .int 0), (0, .ref th)]) hx hb dX2_init_38 rfl hl (by decide) rfl (fun ls hl => ?_)
  refine lv_iload_n hx hb dX2_init_39 rfl (lv_at hl 0 rfl) ?_
  refine lv_aload_n hx hb dX2_init_40 rfl (lv_at hl 1 rfl) ?_
  refine g_get C0 G k17 rfl hiX2 0 (by decide) mf_X2_11 rfl dX2_init_41 ?_
  have k18 : f16 q1 = some (.inl (cy 3, 4, .inr (.inr (.inr (.inr (fun _ => none)))))) := hup hf16 (by omega) (hup hf14 (by omega) (hup hf12 (by omega) (hup hf10 (by omega) (hup hf8 (by omega) (hup hf6 (by omega) k4)))))
  refine g_alen C0 G k18 3 rfl (v := 4) rfl dX2_init_44 ?_
  refine lv_icmp_ge (tgt := 67) hx hb dX2_init_45 (by decide) (fun c19 => absurd c19 (by decide)) (fun _ => ?_)
  refine lv_aload_n hx hb dX2_init_48 rfl (lv_at hl 1 rfl) ?_
  refine g_get C0 G k17 rfl hiX2 0 (by decide) mf_X2_11 rfl dX2_init_49 ?_
  refine lv_iload_n hx hb dX2_init_52 rfl (lv_at hl 0 rfl) ?_
  have zq20 := G.2.1
  have z22 : q1 < _ := (G.1 _ _ k18).1.lt
  refine g_new C0 G (ci := 2) (fs := [.null, .null, .null, .null, .null, .null, .int 0, .int 0, .int 0, .int 0, .int 0]) rfl hiX0 tyX0 tyX0_ok mk_X2_9 mn_X0 mz_X0 (fun j hj => by rcases (show j = 0 ∨ j = 1 ∨ j = 2 ∨ j = 3 ∨ j = 4 ∨ j = 5 ∨ j = 6 ∨ j = 7 ∨ j = 8 ∨ j = 9 ∨ j = 10 by omega) with rfl | rfl | rfl | rfl | rfl | rfl | rfl | rfl | rfl | rfl | rfl <;> rfl) (Nat.le_of_ble_eq_true rfl) (Nat.le_of_ble_eq_true rfl) dX2_init_53 (fun q20 H f21 nq20 hf21 G hzq20 => ?_)
  have k23 : f21 q20 = some (.inr (2, [.null, .null, .null, .null, .null, .null, .int 0, .int 0, .int 0, .int 0, .int 0])) := hus hf21
  refine lv_dup hx hb dX2_init_56 rfl ?_
  have z24 : q20 < _ := (G.1 _ _ k23).1.lt
  refine g_cV C0 G (g_runIN C0 G (rest := [.ref q20, .int 0, .ref q1]) (k_X0_init hfl  k23) hY_X0_init mq_X2_34 mi_X0_init rfl ⟨(Nat.le_of_ble_eq_true rfl), (Nat.le_of_ble_eq_true rfl)⟩ rfl hl.1 rfl (Nat.le_of_ble_eq_true rfl) dX2_init_57 ⟨(Nat.le_of_ble_eq_true rfl), (Nat.le_of_ble_eq_true rfl)⟩) (kx_no rfl) (fun u26 H locs hp25 G => ?_)
  obtain ⟨q27, q28, q29, q30, q31, q32, q33, q34, q35, q36, q37, q38, o39, o40, o41, o42, o43, o44, o45, o46, o47, o48, o49, o50, k51, k52, k53, k54, k55, k56, k57, k58, k59, k60, k61, k62, k63, fr64⟩ := hp25
  have k65 : u26 q1 = some (.inl (cy 3, 4, .inr (.inr (.inr (.inr (fun _ => none)))))) := fr64 _ _ (by omega) (hup hf21 (by omega) k18)
  refine g_aast C0 G k65 3 rfl k63 rfl (by unfold vp_in; decide) dX2_init_60 (fun H locs f66 hf66 G => ?_)
  have k67 : f66 q1 = some (.inl (cy 3, 4, .inr (.inr (.inr (.inr (va_up (fun _ => none) 0 (some q20))))))) := hus hf66
  refine lv_iinc (v := 1) (lv' := [(1, .int 1), (0, .ref th)]) hx hb dX2_init_61 hl (k := 0) rfl (by exact (by decide)) (by decide) rfl (fun ls hl => ?_)
  refine lv_goto (tgt := 39) hx hb dX2_init_64 (by decide) ?_
  refine lv_iload_n hx hb dX2_init_39 rfl (lv_at hl 0 rfl) ?_
  refine lv_aload_n hx hb dX2_init_40 rfl (lv_at hl 1 rfl) ?_
  have k69 : f66 th = some (.inr (4, [.ref q1, .int 0, .int 0, .int 0, .int 0, .int 0])) := hup hf66 (by omega) (fr64 _ _ (by omega) (hup hf21 (by omega) k17))
  refine g_get C0 G k69 rfl hiX2 0 (by decide) mf_X2_11 rfl dX2_init_41 ?_
  refine g_alen C0 G k67 3 rfl (v := 4) rfl dX2_init_44 ?_
  refine lv_icmp_ge (tgt := 67) hx hb dX2_init_45 (by decide) (fun c70 => absurd c70 (by decide)) (fun _ => ?_)
  refine lv_aload_n hx hb dX2_init_48 rfl (lv_at hl 1 rfl) ?_
  refine g_get C0 G k69 rfl hiX2 0 (by decide) mf_X2_11 rfl dX2_init_49 ?_
  refine lv_iload_n hx hb dX2_init_52 rfl (lv_at hl 0 rfl) ?_
  have zq71 := G.2.1
  have k73 : f66 q38 = some (.inl (cy 0, 20, .inl (fun _ => 0))) := hup hf66 (by omega) k62
  have z74 : q38 < _ := (G.1 _ _ k73).1.lt
  refine g_new C0 G (ci := 2) (fs := [.null, .null, .null, .null, .null, .null, .int 0, .int 0, .int 0, .int 0, .int 0]) rfl hiX0 tyX0 tyX0_ok mk_X2_9 mn_X0 mz_X0 (fun j hj => by rcases (show j = 0 ∨ j = 1 ∨ j = 2 ∨ j = 3 ∨ j = 4 ∨ j = 5 ∨ j = 6 ∨ j = 7 ∨ j = 8 ∨ j = 9 ∨ j = 10 by omega) with rfl | rfl | rfl | rfl | rfl | rfl | rfl | rfl | rfl | rfl | rfl <;> rfl) (Nat.le_of_ble_eq_true rfl) (Nat.le_of_ble_eq_true rfl) dX2_init_53 (fun q71 H f72 nq71 hf72 G hzq71 => ?_)
  have k75 : f72 q71 = some (.inr (2, [.null, .null, .null, .null, .null, .null, .int 0, .int 0, .int 0, .int 0, .int 0])) := hus hf72
  refine lv_dup hx hb dX2_init_56 rfl ?_
  have z76 : q71 < _ := (G.1 _ _ k75).1.lt
  refine g_cV C0 G (g_runIN C0 G (rest := [.ref q71, .int 1, .ref q1]) (k_X0_init hfl  k75) hY_X0_init mq_X2_34 mi_X0_init rfl ⟨(Nat.le_of_ble_eq_true rfl), (Nat.le_of_ble_eq_true rfl)⟩ rfl hl.1 rfl (Nat.le_of_ble_eq_true rfl) dX2_init_57 ⟨(Nat.le_of_ble_eq_true rfl), (Nat.le_of_ble_eq_true rfl)⟩) (kx_no rfl) (fun u78 H locs hp77 G => ?_)
  obtain ⟨q79, q80, q81, q82, q83, q84, q85, q86, q87, q88, q89, q90, o91, o92, o93, o94, o95, o96, o97, o98, o99, o100, o101, o102, k103, k104, k105, k106, k107, k108, k109, k110, k111, k112, k113, k114, k115, fr116⟩ := hp77
  have k117 : u78 q1 = some (.inl (cy 3, 4, .inr (.inr (.inr (.inr (va_up (fun _ => none) 0 (some q20))))))) := fr116 _ _ (by omega) (hup hf72 (by omega) k67)
  refine g_aast C0 G k117 3 rfl k115 rfl (by unfold vp_in; decide) dX2_init_60 (fun H locs f118 hf118 G => ?_)
  have k119 : f118 q1 = some (.inl (cy 3, 4, .inr (.inr (.inr (.inr (va_up (va_up (fun _ => none) 0 (some q20)) 1 (some q71))))))) := hus hf118
  refine lv_iinc (v := 2) (lv' := [(1, .int 2), (0, .ref th)]) hx hb dX2_init_61 hl (k := 0) rfl (by exact (by decide)) (by decide) rfl (fun ls hl => ?_)
  refine lv_goto (tgt := 39) hx hb dX2_init_64 (by decide) ?_
  refine lv_iload_n hx hb dX2_init_39 rfl (lv_at hl 0 rfl) ?_
  refine lv_aload_n hx hb dX2_init_40 rfl (lv_at hl 1 rfl) ?_
  have k121 : f118 th = some (.inr (4, [.ref q1, .int 0, .int 0, .int 0, .int 0, .int 0])) := hup hf118 (by omega) (fr116 _ _ (by omega) (hup hf72 (by omega) k69))
  refine g_get C0 G k121 rfl hiX2 0 (by decide) mf_X2_11 rfl dX2_init_41 ?_
  refine g_alen C0 G k119 3 rfl (v := 4) rfl dX2_init_44 ?_
  refine lv_icmp_ge (tgt := 67) hx hb dX2_init_45 (by decide) (fun c122 => absurd c122 (by decide)) (fun _ => ?_)
  refine lv_aload_n hx hb dX2_init_48 rfl (lv_at hl 1 rfl) ?_
  refine g_get C0 G k121 rfl hiX2 0 (by decide) mf_X2_11 rfl dX2_init_49 ?_
  refine lv_iload_n hx hb dX2_init_52 rfl (lv_at hl 0 rfl) ?_
  have zq123 := G.2.1
  have k125 : f118 q90 = some (.inl (cy 0, 20, .inl (fun _ => 0))) := hup hf118 (by omega) k114
  have z126 : q90 < _ := (G.1 _ _ k125).1.lt
  refine g_new C0 G (ci := 2) (fs := [.null, .null, .null, .null, .null, .null, .int 0, .int 0, .int 0, .int 0, .int 0]) rfl hiX0 tyX0 tyX0_ok mk_X2_9 mn_X0 mz_X0 (fun j hj => by rcases (show j = 0 ∨ j = 1 ∨ j = 2 ∨ j = 3 ∨ j = 4 ∨ j = 5 ∨ j = 6 ∨ j = 7 ∨ j = 8 ∨ j = 9 ∨ j = 10 by omega) with rfl | rfl | rfl | rfl | rfl | rfl | rfl | rfl | rfl | rfl | rfl <;> rfl) (Nat.le_of_ble_eq_true rfl) (Nat.le_of_ble_eq_true rfl) dX2_init_53 (fun q123 H f124 nq123 hf124 G hzq123 => ?_)
  have k127 : f124 q123 = some (.inr (2, [.null, .null, .null, .null, .null, .null, .int 0, .int 0, .int 0, .int 0, .int 0])) := hus hf124
  refine lv_dup hx hb dX2_init_56 rfl ?_
  have z128 : q123 < _ := (G.1 _ _ k127).1.lt
  refine g_cV C0 G (g_runIN C0 G (rest := [.ref q123, .int 2, .ref q1]) (k_X0_init hfl  k127) hY_X0_init mq_X2_34 mi_X0_init rfl ⟨(Nat.le_of_ble_eq_true rfl), (Nat.le_of_ble_eq_true rfl)⟩ rfl hl.1 rfl (Nat.le_of_ble_eq_true rfl) dX2_init_57 ⟨(Nat.le_of_ble_eq_true rfl), (Nat.le_of_ble_eq_true rfl)⟩) (kx_no rfl) (fun u130 H locs hp129 G => ?_)
  obtain ⟨q131, q132, q133, q134, q135, q136, q137, q138, q139, q140, q141, q142, o143, o144, o145, o146, o147, o148, o149, o150, o151, o152, o153, o154, k155, k156, k157, k158, k159, k160, k161, k162, k163, k164, k165, k166, k167, fr168⟩ := hp129
  have k169 : u130 q1 = some (.inl (cy 3, 4, .inr (.inr (.inr (.inr (va_up (va_up (fun _ => none) 0 (some q20)) 1 (some q71))))))) := fr168 _ _ (by omega) (hup hf124 (by omega) k119)
  refine g_aast C0 G k169 3 rfl k167 rfl (by unfold vp_in; decide) dX2_init_60 (fun H locs f170 hf170 G => ?_)
  have k171 : f170 q1 = some (.inl (cy 3, 4, .inr (.inr (.inr (.inr (va_up (va_up (va_up (fun _ => none) 0 (some q20)) 1 (some q71)) 2 (some q123))))))) := hus hf170
  refine lv_iinc (v := 3) (lv' := [(1, .int 3), (0, .ref th)]) hx hb dX2_init_61 hl (k := 0) rfl (by exact (by decide)) (by decide) rfl (fun ls hl => ?_)
  refine lv_goto (tgt := 39) hx hb dX2_init_64 (by decide) ?_
  refine lv_iload_n hx hb dX2_init_39 rfl (lv_at hl 0 rfl) ?_
  refine lv_aload_n hx hb dX2_init_40 rfl (lv_at hl 1 rfl) ?_
  have k173 : f170 th = some (.inr (4, [.ref q1, .int 0, .int 0, .int 0, .int 0, .int 0])) := hup hf170 (by omega) (fr168 _ _ (by omega) (hup hf124 (by omega) k121))
  refine g_get C0 G k173 rfl hiX2 0 (by decide) mf_X2_11 rfl dX2_init_41 ?_
  refine g_alen C0 G k171 3 rfl (v := 4) rfl dX2_init_44 ?_
  refine lv_icmp_ge (tgt := 67) hx hb dX2_init_45 (by decide) (fun c174 => absurd c174 (by decide)) (fun _ => ?_)
  refine lv_aload_n hx hb dX2_init_48 rfl (lv_at hl 1 rfl) ?_
  refine g_get C0 G k173 rfl hiX2 0 (by decide) mf_X2_11 rfl dX2_init_49 ?_
  refine lv_iload_n hx hb dX2_init_52 rfl (lv_at hl 0 rfl) ?_
  have zq175 := G.2.1
  have k177 : f170 q142 = some (.inl (cy 0, 20, .inl (fun _ => 0))) := hup hf170 (by omega) k166
  have z178 : q142 < _ := (G.1 _ _ k177).1.lt
  refine g_new C0 G (ci := 2) (fs := [.null, .null, .null, .null, .null, .null, .int 0, .int 0, .int 0, .int 0, .int 0]) rfl hiX0 tyX0 tyX0_ok mk_X2_9 mn_X0 mz_X0 (fun j hj => by rcases (show j = 0 ∨ j = 1 ∨ j = 2 ∨ j = 3 ∨ j = 4 ∨ j = 5 ∨ j = 6 ∨ j = 7 ∨ j = 8 ∨ j = 9 ∨ j = 10 by omega) with rfl | rfl | rfl | rfl | rfl | rfl | rfl | rfl | rfl | rfl | rfl <;> rfl) (Nat.le_of_ble_eq_true rfl) (Nat.le_of_ble_eq_true rfl) dX2_init_53 (fun q175 H f176 nq175 hf176 G hzq175 => ?_)
  have k179 : f176 q175 = some (.inr (2, [.null, .null, .null, .null, .null, .null, .int 0, .int 0, .int 0, .int 0, .int 0])) := hus hf176
  refine lv_dup hx hb dX2_init_56 rfl ?_
  have z180 : q175 < _ := (G.1 _ _ k179).1.lt
  refine g_cV C0 G (g_runIN C0 G (rest := [.ref q175, .int 3, .ref q1]) (k_X0_init hfl  k179) hY_X0_init mq_X2_34 mi_X0_init rfl ⟨(Nat.le_of_ble_eq_true rfl), (Nat.le_of_ble_eq_true rfl)⟩ rfl hl.1 rfl (Nat.le_of_ble_eq_true rfl) dX2_init_57 ⟨(Nat.le_of_ble_eq_true rfl), (Nat.le_of_ble_eq_true rfl)⟩) (kx_no rfl) (fun u182 H locs hp181 G => ?_)
  obtain ⟨q183, q184, q185, q186, q187, q188, q189, q190, q191, q192, q193, q194, o195, o196, o197, o198, o199, o200, o201, o202, o203, o204, o205, o206, k207, k208, k209, k210, k211, k212, k213, k214, k215, k216, k217, k218, k219, fr220⟩ := hp181
  have k221 : u182 q1 = some (.inl (cy 3, 4, .inr (.inr (.inr (.inr (va_up (va_up (va_up (fun _ => none) 0 (some q20)) 1 (some q71)) 2 (some q123))))))) := fr220 _ _ (by omega) (hup hf176 (by omega) k171)
  refine g_aast C0 G k221 3 rfl k219 rfl (by unfold vp_in; decide) dX2_init_60 (fun H locs f222 hf222 G => ?_)
  have k223 : f222 q1 = some (.inl (cy 3, 4, .inr (.inr (.inr (.inr (va_up (va_up (va_up (va_up (fun _ => none) 0 (some q20)) 1 (some q71)) 2 (some q123)) 3 (some q175))))))) := hus hf222
  refine lv_iinc (v := 4) (lv' := [(1, .int 4), (0, .ref th)]) hx hb dX2_init_61 hl (k := 0) rfl (by exact (by decide)) (by decide) rfl (fun ls hl => ?_)
  refine lv_goto (tgt := 39) hx hb dX2_init_64 (by decide) ?_
  refine lv_iload_n hx hb dX2_init_39 rfl (lv_at hl 0 rfl) ?_
  refine lv_aload_n hx hb dX2_init_40 rfl (lv_at hl 1 rfl) ?_
  have k225 : f222 th = some (.inr (4, [.ref q1, .int 0, .int 0, .int 0, .int 0, .int 0])) := hup hf222 (by omega) (fr220 _ _ (by omega) (hup hf176 (by omega) k173))
  refine g_get C0 G k225 rfl hiX2 0 (by decide) mf_X2_11 rfl dX2_init_41 ?_
  refine g_alen C0 G k223 3 rfl (v := 4) rfl dX2_init_44 ?_
  refine lv_icmp_ge (tgt := 67) hx hb dX2_init_45 (by decide) (fun _ => ?_) (fun c226 => absurd (by decide) c226)
  have k227 : f222 q20 = some (.inr (2, [.ref q27, .ref q29, .ref q31, .ref q33, .ref q35, .ref q37, .int 0, .int 0, .int 1, .int (-1), .int 0])) := hup hf222 (by omega) (fr220 _ _ (by omega) (hup hf176 (by omega) (hup hf170 (by omega) (fr168 _ _ (by omega) (hup hf124 (by omega) (hup hf118 (by omega) (fr116 _ _ (by omega) (hup hf72 (by omega) (hup hf66 (by omega) k63)))))))))
  have k228 : f222 q27 = some (.inr (8, [.int 8, .ref q28, .int 0])) := hup hf222 (by omega) (fr220 _ _ (by omega) (hup hf176 (by omega) (hup hf170 (by omega) (fr168 _ _ (by omega) (hup hf124 (by omega) (hup hf118 (by omega) (fr116 _ _ (by omega) (hup hf72 (by omega) (hup hf66 (by omega) k51)))))))))
  have k229 : f222 q28 = some (.inl (cy 0, 8, .inl (fun _ => 0))) := hup hf222 (by omega) (fr220 _ _ (by omega) (hup hf176 (by omega) (hup hf170 (by omega) (fr168 _ _ (by omega) (hup hf124 (by omega) (hup hf118 (by omega) (fr116 _ _ (by omega) (hup hf72 (by omega) (hup hf66 (by omega) k52)))))))))
  have k230 : f222 q29 = some (.inr (8, [.int 6, .ref q30, .int 0])) := hup hf222 (by omega) (fr220 _ _ (by omega) (hup hf176 (by omega) (hup hf170 (by omega) (fr168 _ _ (by omega) (hup hf124 (by omega) (hup hf118 (by omega) (fr116 _ _ (by omega) (hup hf72 (by omega) (hup hf66 (by omega) k53)))))))))
  have k231 : f222 q30 = some (.inl (cy 0, 66, .inl (fun _ => 0))) := hup hf222 (by omega) (fr220 _ _ (by omega) (hup hf176 (by omega) (hup hf170 (by omega) (fr168 _ _ (by omega) (hup hf124 (by omega) (hup hf118 (by omega) (fr116 _ _ (by omega) (hup hf72 (by omega) (hup hf66 (by omega) k54)))))))))
  have k232 : f222 q31 = some (.inr (8, [.int 7, .ref q32, .int 0])) := hup hf222 (by omega) (fr220 _ _ (by omega) (hup hf176 (by omega) (hup hf170 (by omega) (fr168 _ _ (by omega) (hup hf124 (by omega) (hup hf118 (by omega) (fr116 _ _ (by omega) (hup hf72 (by omega) (hup hf66 (by omega) k55)))))))))
  have k233 : f222 q32 = some (.inl (cy 0, 77, .inl (fun _ => 0))) := hup hf222 (by omega) (fr220 _ _ (by omega) (hup hf176 (by omega) (hup hf170 (by omega) (fr168 _ _ (by omega) (hup hf124 (by omega) (hup hf118 (by omega) (fr116 _ _ (by omega) (hup hf72 (by omega) (hup hf66 (by omega) k56)))))))))
  have k234 : f222 q33 = some (.inr (8, [.int 8, .ref q34, .int 0])) := hup hf222 (by omega) (fr220 _ _ (by omega) (hup hf176 (by omega) (hup hf170 (by omega) (fr168 _ _ (by omega) (hup hf124 (by omega) (hup hf118 (by omega) (fr116 _ _ (by omega) (hup hf72 (by omega) (hup hf66 (by omega) k57)))))))))
  have k235 : f222 q34 = some (.inl (cy 0, 4104, .inl (fun _ => 0))) := hup hf222 (by omega) (fr220 _ _ (by omega) (hup hf176 (by omega) (hup hf170 (by omega) (fr168 _ _ (by omega) (hup hf124 (by omega) (hup hf118 (by omega) (fr116 _ _ (by omega) (hup hf72 (by omega) (hup hf66 (by omega) k58)))))))))
  have k236 : f222 q35 = some (.inr (8, [.int 3, .ref q36, .int 0])) := hup hf222 (by omega) (fr220 _ _ (by omega) (hup hf176 (by omega) (hup hf170 (by omega) (fr168 _ _ (by omega) (hup hf124 (by omega) (hup hf118 (by omega) (fr116 _ _ (by omega) (hup hf72 (by omega) (hup hf66 (by omega) k59)))))))))
  have k237 : f222 q36 = some (.inl (cy 0, 33, .inl (fun _ => 0))) := hup hf222 (by omega) (fr220 _ _ (by omega) (hup hf176 (by omega) (hup hf170 (by omega) (fr168 _ _ (by omega) (hup hf124 (by omega) (hup hf118 (by omega) (fr116 _ _ (by omega) (hup hf72 (by omega) (hup hf66 (by omega) k60)))))))))
  have k238 : f222 q37 = some (.inr (5, [.ref q38, .int 0, .int 0, .int 0, .int (-1), .int (-1), .int 0, .int 0, .int 0])) := hup hf222 (by omega) (fr220 _ _ (by omega) (hup hf176 (by omega) (hup hf170 (by omega) (fr168 _ _ (by omega) (hup hf124 (by omega) (hup hf118 (by omega) (fr116 _ _ (by omega) (hup hf72 (by omega) (hup hf66 (by omega) k61)))))))))
  have k239 : f222 q38 = some (.inl (cy 0, 20, .inl (fun _ => 0))) := hup hf222 (by omega) (fr220 _ _ (by omega) (hup hf176 (by omega) (hup hf170 (by omega) (fr168 _ _ (by omega) (hup hf124 (by omega) (hup hf118 (by omega) (fr116 _ _ (by omega) (hup hf72 (by omega) k73))))))))
  exact g_vret C0 G hr dX2_init_67 (Nat.le_of_ble_eq_true rfl) (Nat.le_of_ble_eq_true rfl) (by exact ⟨q1, q20, q27, q28, q29, q30, q31, q32, q33, q34, q35, q36, q37, q38, _, (by omega), (by omega), (by omega), (by omega), (by omega), (by omega), (by omega), (by omega), (by omega), (by omega), (by omega), (by omega), (by omega), (by omega), k223, k227, k228, k229, k230, k231, k232, k233, k234, k235, k236, k237, k238, k239, rfl, k225, (fun a9 e9 h7 h8 => by have h6 := (Gz.1 _ _ h8).1.lt; rw [hsz] at h6; exact hup hf222 (Nat.ne_of_lt (Nat.lt_of_lt_of_le h6 (by omega))) (fr220 _ _ (Nat.ne_of_lt (Nat.lt_of_lt_of_le h6 (by omega))) (hup hf176 (Nat.ne_of_lt (Nat.lt_of_lt_of_le h6 (by omega))) (hup hf170 (Nat.ne_of_lt (Nat.lt_of_lt_of_le h6 (by omega))) (fr168 _ _ (Nat.ne_of_lt (Nat.lt_of_lt_of_le h6 (by omega))) (hup hf124 (Nat.ne_of_lt (Nat.lt_of_lt_of_le h6 (by omega))) (hup hf118 (Nat.ne_of_lt (Nat.lt_of_lt_of_le h6 (by omega))) (fr116 _ _ (Nat.ne_of_lt (Nat.lt_of_lt_of_le h6 (by omega))) (hup hf72 (Nat.ne_of_lt (Nat.lt_of_lt_of_le h6 (by omega))) (hup hf66 (Nat.ne_of_lt (Nat.lt_of_lt_of_le h6 (by omega))) (fr64 _ _ (Nat.ne_of_lt (Nat.lt_of_lt_of_le h6 (by omega))) (hup hf21 (Nat.ne_of_lt (Nat.lt_of_lt_of_le h6 (by omega))) (hup hf16 h7 (hup hf14 h7 (hup hf12 h7 (hup hf10 h7 (hup hf8 h7 (hup hf6 h7 (hup hf2 (Nat.ne_of_lt (Nat.lt_of_lt_of_le h6 (by omega))) (h8))))))))))))))))))))⟩)
set_option maxRecDepth 100000 in
theorem k_X8_init {l : Launch} (hfl : l.stackTraces = false) {D : va_G} {cy : Nat → ClassId} {f : Hf} {sz : Nat} {th : Nat} (h_t : f th = some (.inr (10, [.null, .null, .null, .null, .null, .null, .null, .int 0, .int 0, .int 0]))) : hMet l yX8_init cX8_init 1 none { frames := 4, cells := 124, slots := 37030, locals := 77 } D (hTy cy) f sz [.ref th] (hQv (fun u => ∃ m0 al i0 i1 i2 i3 i4 i5 i6 i7 i8 i9 i10 i11 i12 lg ln lst len sv sn sst sen tx bf tn tp r0 r0e r1 r1e m1 g0, sz ≤ m0 ∧ m0 < al ∧ al < i0 ∧ i0 < i1 ∧ i1 < i2 ∧ i2 < i3 ∧ i3 < i4 ∧ i4 < i5 ∧ i5 < i6 ∧ i6 < i7 ∧ i7 < i8 ∧ i8 < i9 ∧ i9 < i10 ∧ i10 < i11 ∧ i11 < i12 ∧ i12 < lg ∧ lg < ln ∧ ln < lst ∧ lst < len ∧ len < sv ∧ sv < sn ∧ sn < sst ∧ sst < sen ∧ sen < tx ∧ tx < bf ∧ bf < tn ∧ tn < tp ∧ tp < r0 ∧ r0 < r0e ∧ r0e < r1 ∧ r1 < r1e ∧ u m0 = some (.inr (4, [.ref al, .int 0, .int 0, .int 0, .int 0, .int 0])) ∧ u al = some (.inl (cy 3, 4, .inr (.inr (.inr (.inr g0))))) ∧ u i0 = some (.inr (2, [.ref i1, .ref i3, .ref i5, .ref i7, .ref i9, .ref i11, .int 0, .int 0, .int 1, .int (-1), .int 0])) ∧ u i1 = some (.inr (8, [.int 8, .ref i2, .int 0])) ∧ u i2 = some (.inl (cy 0, 8, .inl (fun _ => 0))) ∧ u i3 = some (.inr (8, [.int 6, .ref i4, .int 0])) ∧ u i4 = some (.inl (cy 0, 66, .inl (fun _ => 0))) ∧ u i5 = some (.inr (8, [.int 7, .ref i6, .int 0])) ∧ u i6 = some (.inl (cy 0, 77, .inl (fun _ => 0))) ∧ u i7 = some (.inr (8, [.int 8, .ref i8, .int 0])) ∧ u i8 = some (.inl (cy 0, 4104, .inl (fun _ => 0))) ∧ u i9 = some (.inr (8, [.int 3, .ref i10, .int 0])) ∧ u i10 = some (.inl (cy 0, 33, .inl (fun _ => 0))) ∧ u i11 = some (.inr (5, [.ref i12, .int 0, .int 0, .int 0, .int (-1), .int (-1), .int 0, .int 0, .int 0])) ∧ u i12 = some (.inl (cy 0, 20, .inl (fun _ => 0))) ∧ u lg = some (.inr (3, [.ref ln, .ref lst, .ref len, .int 0, .int 0, .int 0, .int 0, .int 0, .int 0])) ∧ u ln = some (.inr (7, [.int 0, .int 0, .int 0, .int 0, .int 0, .int 0, .int 0, .int 0, .int 0])) ∧ u lst = some (.inl (cy 4, 512, .inr (.inr (.inr (.inr (sfl ln 512)))))) ∧ u len = some (.inl (cy 0, 512, .inl (fun _ => 0))) ∧ u sv = some (.inr (3, [.ref sn, .ref sst, .ref sen, .int 0, .int 0, .int 0, .int 0, .int 0, .int 0])) ∧ u sn = some (.inr (7, [.int 0, .int 0, .int 0, .int 0, .int 0, .int 0, .int 0, .int 0, .int 0])) ∧ u sst = some (.inl (cy 4, 512, .inr (.inr (.inr (.inr (sfl sn 512)))))) ∧ u sen = some (.inl (cy 0, 512, .inl (fun _ => 0))) ∧ u tx = some (.inr (9, [.ref bf, .ref tn, .ref tp, .int 0, .int 0])) ∧ u bf = some (.inl (cy 1, 60, .inl (fun _ => 0))) ∧ u tn = some (.inr (7, [.int 0, .int 0, .int 0, .int 0, .int 0, .int 0, .int 0, .int 0, .int 0])) ∧ u tp = some (.inl (cy 4, 60, .inr (.inr (.inr (.inr (sfl tn 60)))))) ∧ u r0 = some (.inr (6, [.ref r0e, .int 0, .int 0, .int 0])) ∧ u r0e = some (.inl (cy 2, 20, .inr (.inr (.inl (fun _ => 0))))) ∧ u r1 = some (.inr (6, [.ref r1e, .int 0, .int 0, .int 0])) ∧ u r1e = some (.inl (cy 2, 20, .inr (.inr (.inl (fun _ => 0))))) ∧ g0 0 = some i0 ∧ u th = some (.inr (10, [.ref m0, .ref m1, .ref lg, .ref sv, .ref tx, .ref r0, .ref r1, .int (-1), .int (-1), .int 0])) ∧ hFr f u th) D f sz) hNo := by
  refine h_enter (by decide) hfl (Nat.le_of_ble_eq_true rfl) ?_
  intro p9 e9 s9 m9 b9 t9 c9 hsz C0 hr hnm G ls hl
  have hx := C0.1.1
  have hb := C0.1.2.1
  have Gz := G
  have hin : t9.name = "<init>" := hnm
  have hl : lv_has ls 1 [(0, .ref th)] := hl
  refine lv_aload_n hx hb dX8_init_0 rfl (lv_at hl 0 rfl) ?_
  refine W.objInit hx hb C0.1.2.2.2.1 (C0.2.2.2.1.1 _ mm_X8_1 rfl _) (C0.2.2.2.1.1 _ mi_java_lang_Object__init____V rfl _) (C0.2.2.2.1.1 _ mc_objinit rfl _) rfl (by rw [C0.1.2.2.1]; exact hl.1) rfl dX8_init_1 (Nat.le_of_ble_eq_true rfl) (Nat.le_of_ble_eq_true rfl) ?_
  refine W.eq (g2 := F0 m9 4 ls []) rfl ?_
  refine lv_aload_n hx hb dX8_init_4 rfl (lv_at hl 0 rfl) ?_
  have zq1 := G.2.1
  have z3 : th < _ := (G.1 _ _ h_t).1.lt
  refine g_new C0 G (ci := 4) (fs := [.null, .int 0, .int 0, .int 0, .int 0, .int 0]) rfl hiX2 tyX2 tyX2_ok mk_X8_7 mn_X2 mz_X2 (fun j hj => by rcases (show j = 0 ∨ j = 1 ∨ j = 2 ∨ j = 3 ∨ j = 4 ∨ j = 5 by omega) with rfl | rfl | rfl | rfl | rfl | rfl <;> rfl) (Nat.le_of_ble_eq_true rfl) (Nat.le_of_ble_eq_true rfl) dX8_init_5 (fun q1 H f2 nq1 hf2 G hzq1 => ?_)
  have k4 : f2 q1 = some (.inr (4, [.null, .int 0, .int 0, .int 0, .int 0, .int 0])) := hus hf2
  refine lv_dup hx hb dX8_init_8 rfl ?_
  have z5 : q1 < _ := (G.1 _ _ k4).1.lt
  refine g_cV C0 G (g_runI C0 G (rest := [.ref q1, .ref th]) (k_X2_init hfl k4) hY_X2_init mm_X8_9 mi_X2_init rfl ⟨(Nat.le_of_ble_eq_true rfl), (Nat.le_of_ble_eq_true rfl)⟩ rfl hl.1 rfl (Nat.le_of_ble_eq_true rfl) dX8_init_9 ⟨(Nat.le_of_ble_eq_true rfl), (Nat.le_of_ble_eq_true rfl)⟩) (kx_no rfl) (fun u7 H locs hp6 G => ?_)
  obtain ⟨q8, q9, q10, q11, q12, q13, q14, q15, q16, q17, q18, q19, q20, q21, g22, o23, o24, o25, o26, o27, o28, o29, o30, o31, o32, o33, o34, o35, o36, k37, k38, k39, k40, k41, k42, k43, k44, k45, k46, k47, k48, k49, k50, hg53, k51, fr52⟩ := hp6
  have k54 : u7 th = some (.inr (10, [.null, .null, .null, .null, .null, .null, .null, .int 0, .int 0, .int 0])) := fr52 _ _ (by omega) (hup hf2 (by omega) h_t)
  refine g_putF C0 G hin k54 rfl hiX8 tyX8 tyX8_ok nmX8 0 (by decide) mf_X8_10 rfl rfl rfl rfl rfl (Nat.le_of_ble_eq_true rfl) dX8_init_12 (fun H locs f55 hf55 G => ?_)
  have k56 : f55 th = some (.inr (10, [.ref q1, .null, .null, .null, .null, .null, .null, .int 0, .int 0, .int 0])) := hus hf55
  refine lv_aload_n hx hb dX8_init_15 rfl (lv_at hl 0 rfl) ?_
  have zq57 := G.2.1
  have k59 : f55 q21 = some (.inl (cy 0, 20, .inl (fun _ => 0))) := hup hf55 (by omega) k50
  have z60 : q21 < _ := (G.1 _ _ k59).1.lt
  refine g_new C0 G (ci := 4) (fs := [.null, .int 0, .int 0, .int 0, .int 0, .int 0]) rfl hiX2 tyX2 tyX2_ok mk_X8_7 mn_X2 mz_X2 (fun j hj => by rcases (show j = 0 ∨ j = 1 ∨ j = 2 ∨ j = 3 ∨ j = 4 ∨ j = 5 by omega) with rfl | rfl | rfl | rfl | rfl | rfl <;> rfl) (Nat.le_of_ble_eq_true rfl) (Nat.le_of_ble_eq_true rfl) dX8_init_16 (fun q57 H f58 nq57 hf58 G hzq57 => ?_)
  have k61 : f58 q57 = some (.inr (4, [.null, .int 0, .int 0, .int 0, .int 0, .int 0])) := hus hf58
  refine lv_dup hx hb dX8_init_19 rfl ?_
  have z62 : q57 < _ := (G.1 _ _ k61).1.lt
  refine g_cV C0 G (g_runI C0 G (rest := [.ref q57, .ref th]) (k_X2_init hfl k61) hY_X2_init mm_X8_9 mi_X2_init rfl ⟨(Nat.le_of_ble_eq_true rfl), (Nat.le_of_ble_eq_true rfl)⟩ rfl hl.1 rfl (Nat.le_of_ble_eq_true rfl) dX8_init_20 ⟨(Nat.le_of_ble_eq_true rfl), (Nat.le_of_ble_eq_true rfl)⟩) (kx_no rfl) (fun u64 H locs hp63 G => ?_)
  obtain ⟨q65, q66, q67, q68, q69, q70, q71, q72, q73, q74, q75, q76, q77, q78, g79, o80, o81, o82, o83, o84, o85, o86, o87, o88, o89, o90, o91, o92, o93, k94, k95, k96, k97, k98, k99, k100, k101, k102, k103, k104, k105, k106, k107, hg110, k108, fr109⟩ := hp63
  have k111 : u64 th = some (.inr (10, [.ref q1, .null, .null, .null, .null, .null, .null, .int 0, .int 0, .int 0])) := fr109 _ _ (by omega) (hup hf58 (by omega) k56)
  refine g_putF C0 G hin k111 rfl hiX8 tyX8 tyX8_ok nmX8 1 (by decide) mf_X8_16 rfl rfl rfl rfl rfl (Nat.le_of_ble_eq_true rfl) dX8_init_23 (fun H locs f112 hf112 G => ?_)
  have k113 : f112 th = some (.inr (10, [.ref q1, .ref q57, .null, .null, .null, .null, .null, .int 0, .int 0, .int 0])) := hus hf112
  refine lv_aload_n hx hb dX8_init_26 rfl (lv_at hl 0 rfl) ?_
  have zq114 := G.2.1
  have k116 : f112 q78 = some (.inl (cy 0, 20, .inl (fun _ => 0))) := hup hf112 (by omega) k107
  have z117 : q78 < _ := (G.1 _ _ k116).1.lt
  refine g_new C0 G (ci := 3) (fs := [.null, .null, .null, .int 0, .int 0, .int 0, .int 0, .int 0, .int 0]) rfl hiX1 tyX1 tyX1_ok mk_X8_19 mn_X1 mz_X1 (fun j hj => by rcases (show j = 0 ∨ j = 1 ∨ j = 2 ∨ j = 3 ∨ j = 4 ∨ j = 5 ∨ j = 6 ∨ j = 7 ∨ j = 8 by omega) with rfl | rfl | rfl | rfl | rfl | rfl | rfl | rfl | rfl <;> rfl) (Nat.le_of_ble_eq_true rfl) (Nat.le_of_ble_eq_true rfl) dX8_init_27 (fun q114 H f115 nq114 hf115 G hzq114 => ?_)
  have k118 : f115 q114 = some (.inr (3, [.null, .null, .null, .int 0, .int 0, .int 0, .int 0, .int 0, .int 0])) := hus hf115
  refine lv_dup hx hb dX8_init_30 rfl ?_
  have z119 : q114 < _ := (G.1 _ _ k118).1.lt
  refine g_cV C0 G (g_runI C0 G (rest := [.ref q114, .ref th]) (k_X1_init hfl  k118) hY_X1_init mm_X8_21 mi_X1_init rfl ⟨(Nat.le_of_ble_eq_true rfl), (Nat.le_of_ble_eq_true rfl)⟩ rfl hl.1 rfl (Nat.le_of_ble_eq_true rfl) dX8_init_31 ⟨(Nat.le_of_ble_eq_true rfl), (Nat.le_of_ble_eq_true rfl)⟩) (kx_no rfl) (fun u121 H locs hp120 G => ?_)
  obtain ⟨q122, q123, q124, o125, o126, o127, k128, k129, k130, k131, fr132⟩ := hp120
  have k133 : u121 th = some (.inr (10, [.ref q1, .ref q57, .null, .null, .null, .null, .null, .int 0, .int 0, .int 0])) := fr132 _ _ (by omega) (hup hf115 (by omega) k113)
  refine g_putF C0 G hin k133 rfl hiX8 tyX8 tyX8_ok nmX8 2 (by decide) mf_X8_22 rfl rfl rfl rfl rfl (Nat.le_of_ble_eq_true rfl) dX8_init_34 (fun H locs f134 hf134 G => ?_)
  have k135 : f134 th = some (.inr (10, [.ref q1, .ref q57, .ref q114, .null, .null, .null, .null, .int 0, .int 0, .int 0])) := hus hf134
  refine lv_aload_n hx hb dX8_init_37 rfl (lv_at hl 0 rfl) ?_
  have zq136 := G.2.1
  have k138 : f134 q124 = some (.inl (cy 0, 512, .inl (fun _ => 0))) := hup hf134 (by omega) k130
  have z139 : q124 < _ := (G.1 _ _ k138).1.lt
  refine g_new C0 G (ci := 3) (fs := [.null, .null, .null, .int 0, .int 0, .int 0, .int 0, .int 0, .int 0]) rfl hiX1 tyX1 tyX1_ok mk_X8_19 mn_X1 mz_X1 (fun j hj => by rcases (show j = 0 ∨ j = 1 ∨ j = 2 ∨ j = 3 ∨ j = 4 ∨ j = 5 ∨ j = 6 ∨ j = 7 ∨ j = 8 by omega) with rfl | rfl | rfl | rfl | rfl | rfl | rfl | rfl | rfl <;> rfl) (Nat.le_of_ble_eq_true rfl) (Nat.le_of_ble_eq_true rfl) dX8_init_38 (fun q136 H f137 nq136 hf137 G hzq136 => ?_)
  have k140 : f137 q136 = some (.inr (3, [.null, .null, .null, .int 0, .int 0, .int 0, .int 0, .int 0, .int 0])) := hus hf137
  refine lv_dup hx hb dX8_init_41 rfl ?_
  have z141 : q136 < _ := (G.1 _ _ k140).1.lt
  refine g_cV C0 G (g_runI C0 G (rest := [.ref q136, .ref th]) (k_X1_init hfl  k140) hY_X1_init mm_X8_21 mi_X1_init rfl ⟨(Nat.le_of_ble_eq_true rfl), (Nat.le_of_ble_eq_true rfl)⟩ rfl hl.1 rfl (Nat.le_of_ble_eq_true rfl) dX8_init_42 ⟨(Nat.le_of_ble_eq_true rfl), (Nat.le_of_ble_eq_true rfl)⟩) (kx_no rfl) (fun u143 H locs hp142 G => ?_)
  obtain ⟨q144, q145, q146, o147, o148, o149, k150, k151, k152, k153, fr154⟩ := hp142
  have k155 : u143 th = some (.inr (10, [.ref q1, .ref q57, .ref q114, .null, .null, .null, .null, .int 0, .int 0, .int 0])) := fr154 _ _ (by omega) (hup hf137 (by omega) k135)
  refine g_putF C0 G hin k155 rfl hiX8 tyX8 tyX8_ok nmX8 3 (by decide) mf_X8_26 rfl rfl rfl rfl rfl (Nat.le_of_ble_eq_true rfl) dX8_init_45 (fun H locs f156 hf156 G => ?_)
  have k157 : f156 th = some (.inr (10, [.ref q1, .ref q57, .ref q114, .ref q136, .null, .null, .null, .int 0, .int 0, .int 0])) := hus hf156
  refine lv_aload_n hx hb dX8_init_48 rfl (lv_at hl 0 rfl) ?_
  have zq158 := G.2.1
  have k160 : f156 q146 = some (.inl (cy 0, 512, .inl (fun _ => 0))) := hup hf156 (by omega) k152
  have z161 : q146 < _ := (G.1 _ _ k160).1.lt
  refine g_new C0 G (ci := 9) (fs := [.null, .null, .null, .int 0, .int 0]) rfl hiX7 tyX7 tyX7_ok mk_X8_29 mn_X7 mz_X7 (fun j hj => by rcases (show j = 0 ∨ j = 1 ∨ j = 2 ∨ j = 3 ∨ j = 4 by omega) with rfl | rfl | rfl | rfl | rfl <;> rfl) (Nat.le_of_ble_eq_true rfl) (Nat.le_of_ble_eq_true rfl) dX8_init_49 (fun q158 H f159 nq158 hf159 G hzq158 => ?_)
  have k162 : f159 q158 = some (.inr (9, [.null, .null, .null, .int 0, .int 0])) := hus hf159
  refine lv_dup hx hb dX8_init_52 rfl ?_
  have z163 : q158 < _ := (G.1 _ _ k162).1.lt
  refine g_cV C0 G (g_runI C0 G (rest := [.ref q158, .ref th]) (k_X7_init hfl  k162) hY_X7_init mm_X8_31 mi_X7_init rfl ⟨(Nat.le_of_ble_eq_true rfl), (Nat.le_of_ble_eq_true rfl)⟩ rfl hl.1 rfl (Nat.le_of_ble_eq_true rfl) dX8_init_53 ⟨(Nat.le_of_ble_eq_true rfl), (Nat.le_of_ble_eq_true rfl)⟩) (kx_no rfl) (fun u165 H locs hp164 G => ?_)
  obtain ⟨q166, q167, q168, o169, o170, o171, k172, k173, k174, k175, fr176⟩ := hp164
  have k177 : u165 th = some (.inr (10, [.ref q1, .ref q57, .ref q114, .ref q136, .null, .null, .null, .int 0, .int 0, .int 0])) := fr176 _ _ (by omega) (hup hf159 (by omega) k157)
  refine g_putF C0 G hin k177 rfl hiX8 tyX8 tyX8_ok nmX8 4 (by decide) mf_X8_32 rfl rfl rfl rfl rfl (Nat.le_of_ble_eq_true rfl) dX8_init_56 (fun H locs f178 hf178 G => ?_)
  have k179 : f178 th = some (.inr (10, [.ref q1, .ref q57, .ref q114, .ref q136, .ref q158, .null, .null, .int 0, .int 0, .int 0])) := hus hf178
  refine lv_aload_n hx hb dX8_init_59 rfl (lv_at hl 0 rfl) ?_
  have zq180 := G.2.1
  have k182 : f178 q168 = some (.inl (cy 4, 60, .inr (.inr (.inr (.inr (sfl q167 60)))))) := hup hf178 (by omega) k174
  have z183 : q168 < _ := (G.1 _ _ k182).1.lt
  refine g_new C0 G (ci := 6) (fs := [.null, .int 0, .int 0, .int 0]) rfl hiX4 tyX4 tyX4_ok mk_X8_36 mn_X4 mz_X4 (fun j hj => by rcases (show j = 0 ∨ j = 1 ∨ j = 2 ∨ j = 3 by omega) with rfl | rfl | rfl | rfl <;> rfl) (Nat.le_of_ble_eq_true rfl) (Nat.le_of_ble_eq_true rfl) dX8_init_60 (fun q180 H f181 nq180 hf181 G hzq180 => ?_)
  have k184 : f181 q180 = some (.inr (6, [.null, .int 0, .int 0, .int 0])) := hus hf181
  refine lv_dup hx hb dX8_init_63 rfl ?_
  have z185 : q180 < _ := (G.1 _ _ k184).1.lt
  refine g_cV C0 G (g_runIN C0 G (rest := [.ref q180, .ref th]) (k_X4_init hfl  k184) hY_X4_init mq_X8_38 mi_X4_init rfl ⟨(Nat.le_of_ble_eq_true rfl), (Nat.le_of_ble_eq_true rfl)⟩ rfl hl.1 rfl (Nat.le_of_ble_eq_true rfl) dX8_init_64 ⟨(Nat.le_of_ble_eq_true rfl), (Nat.le_of_ble_eq_true rfl)⟩) (kx_no rfl) (fun u187 H locs hp186 G => ?_)
  obtain ⟨q188, o189, k190, k191, fr192⟩ := hp186
  have k193 : u187 th = some (.inr (10, [.ref q1, .ref q57, .ref q114, .ref q136, .ref q158, .null, .null, .int 0, .int 0, .int 0])) := fr192 _ _ (by omega) (hup hf181 (by omega) k179)
  refine g_putF C0 G hin k193 rfl hiX8 tyX8 tyX8_ok nmX8 5 (by decide) mf_X8_39 rfl rfl rfl rfl rfl (Nat.le_of_ble_eq_true rfl) dX8_init_67 (fun H locs f194 hf194 G => ?_)
  have k195 : f194 th = some (.inr (10, [.ref q1, .ref q57, .ref q114, .ref q136, .ref q158, .ref q180, .null, .int 0, .int 0, .int 0])) := hus hf194
  refine lv_aload_n hx hb dX8_init_70 rfl (lv_at hl 0 rfl) ?_
  have zq196 := G.2.1
  have k198 : f194 q188 = some (.inl (cy 2, 20, .inr (.inr (.inl (fun _ => 0))))) := hup hf194 (by omega) k190
  have z199 : q188 < _ := (G.1 _ _ k198).1.lt
  refine g_new C0 G (ci := 6) (fs := [.null, .int 0, .int 0, .int 0]) rfl hiX4 tyX4 tyX4_ok mk_X8_36 mn_X4 mz_X4 (fun j hj => by rcases (show j = 0 ∨ j = 1 ∨ j = 2 ∨ j = 3 by omega) with rfl | rfl | rfl | rfl <;> rfl) (Nat.le_of_ble_eq_true rfl) (Nat.le_of_ble_eq_true rfl) dX8_init_71 (fun q196 H f197 nq196 hf197 G hzq196 => ?_)
  have k200 : f197 q196 = some (.inr (6, [.null, .int 0, .int 0, .int 0])) := hus hf197
  refine lv_dup hx hb dX8_init_74 rfl ?_
  have z201 : q196 < _ := (G.1 _ _ k200).1.lt
  refine g_cV C0 G (g_runIN C0 G (rest := [.ref q196, .ref th]) (k_X4_init hfl  k200) hY_X4_init mq_X8_38 mi_X4_init rfl ⟨(Nat.le_of_ble_eq_true rfl), (Nat.le_of_ble_eq_true rfl)⟩ rfl hl.1 rfl (Nat.le_of_ble_eq_true rfl) dX8_init_75 ⟨(Nat.le_of_ble_eq_true rfl), (Nat.le_of_ble_eq_true rfl)⟩) (kx_no rfl) (fun u203 H locs hp202 G => ?_)
  obtain ⟨q204, o205, k206, k207, fr208⟩ := hp202
  have k209 : u203 th = some (.inr (10, [.ref q1, .ref q57, .ref q114, .ref q136, .ref q158, .ref q180, .null, .int 0, .int 0, .int 0])) := fr208 _ _ (by omega) (hup hf197 (by omega) k195)
  refine g_putF C0 G hin k209 rfl hiX8 tyX8 tyX8_ok nmX8 6 (by decide) mf_X8_43 rfl rfl rfl rfl rfl (Nat.le_of_ble_eq_true rfl) dX8_init_78 (fun H locs f210 hf210 G => ?_)
  have k211 : f210 th = some (.inr (10, [.ref q1, .ref q57, .ref q114, .ref q136, .ref q158, .ref q180, .ref q196, .int 0, .int 0, .int 0])) := hus hf210
  refine lv_aload_n hx hb dX8_init_81 rfl (lv_at hl 0 rfl) ?_
  refine lv_iconst (v := (-1)) hx hb dX8_init_82 (by decide) ?_
  refine g_put C0 G k211 rfl hiX8 tyX8 tyX8_ok nmX8 7 (by decide) mf_X8_46 rfl rfl rfl rfl (Nat.le_of_ble_eq_true rfl) dX8_init_83 (fun H locs f212 hf212 G => ?_)
  have k213 : f212 th = some (.inr (10, [.ref q1, .ref q57, .ref q114, .ref q136, .ref q158, .ref q180, .ref q196, .int (-1), .int 0, .int 0])) := hus hf212
  refine lv_aload_n hx hb dX8_init_86 rfl (lv_at hl 0 rfl) ?_
  refine lv_iconst (v := (-1)) hx hb dX8_init_87 (by decide) ?_
  refine g_put C0 G k213 rfl hiX8 tyX8 tyX8_ok nmX8 8 (by decide) mf_X8_50 rfl rfl rfl rfl (Nat.le_of_ble_eq_true rfl) dX8_init_88 (fun H locs f214 hf214 G => ?_)
  have k215 : f214 th = some (.inr (10, [.ref q1, .ref q57, .ref q114, .ref q136, .ref q158, .ref q180, .ref q196, .int (-1), .int (-1), .int 0])) := hus hf214
  refine lv_aload_n hx hb dX8_init_91 rfl (lv_at hl 0 rfl) ?_
  refine lv_iconst (v := 0) hx hb dX8_init_92 (by decide) ?_
  refine g_put C0 G k215 rfl hiX8 tyX8 tyX8_ok nmX8 9 (by decide) mf_X8_53 rfl rfl rfl rfl (Nat.le_of_ble_eq_true rfl) dX8_init_93 (fun H locs f216 hf216 G => ?_)
  have k217 : f216 th = some (.inr (10, [.ref q1, .ref q57, .ref q114, .ref q136, .ref q158, .ref q180, .ref q196, .int (-1), .int (-1), .int 0])) := hus hf216
  have k218 : f216 q1 = some (.inr (4, [.ref q8, .int 0, .int 0, .int 0, .int 0, .int 0])) := hup hf216 (by omega) (hup hf214 (by omega) (hup hf212 (by omega) (hup hf210 (by omega) (fr208 _ _ (by omega) (hup hf197 (by omega) (hup hf194 (by omega) (fr192 _ _ (by omega) (hup hf181 (by omega) (hup hf178 (by omega) (fr176 _ _ (by omega) (hup hf159 (by omega) (hup hf156 (by omega) (fr154 _ _ (by omega) (hup hf137 (by omega) (hup hf134 (by omega) (fr132 _ _ (by omega) (hup hf115 (by omega) (hup hf112 (by omega) (fr109 _ _ (by omega) (hup hf58 (by omega) (hup hf55 (by omega) k51)))))))))))))))))))))
  have k219 : f216 q8 = some (.inl (cy 3, 4, .inr (.inr (.inr (.inr g22))))) := hup hf216 (by omega) (hup hf214 (by omega) (hup hf212 (by omega) (hup hf210 (by omega) (fr208 _ _ (by omega) (hup hf197 (by omega) (hup hf194 (by omega) (fr192 _ _ (by omega) (hup hf181 (by omega) (hup hf178 (by omega) (fr176 _ _ (by omega) (hup hf159 (by omega) (hup hf156 (by omega) (fr154 _ _ (by omega) (hup hf137 (by omega) (hup hf134 (by omega) (fr132 _ _ (by omega) (hup hf115 (by omega) (hup hf112 (by omega) (fr109 _ _ (by omega) (hup hf58 (by omega) (hup hf55 (by omega) k37)))))))))))))))))))))
  have k220 : f216 q9 = some (.inr (2, [.ref q10, .ref q12, .ref q14, .ref q16, .ref q18, .ref q20, .int 0, .int 0, .int 1, .int (-1), .int 0])) := hup hf216 (by omega) (hup hf214 (by omega) (hup hf212 (by omega) (hup hf210 (by omega) (fr208 _ _ (by omega) (hup hf197 (by omega) (hup hf194 (by omega) (fr192 _ _ (by omega) (hup hf181 (by omega) (hup hf178 (by omega) (fr176 _ _ (by omega) (hup hf159 (by omega) (hup hf156 (by omega) (fr154 _ _ (by omega) (hup hf137 (by omega) (hup hf134 (by omega) (fr132 _ _ (by omega) (hup hf115 (by omega) (hup hf112 (by omega) (fr109 _ _ (by omega) (hup hf58 (by omega) (hup hf55 (by omega) k38)))))))))))))))))))))
  have k221 : f216 q10 = some (.inr (8, [.int 8, .ref q11, .int 0])) := hup hf216 (by omega) (hup hf214 (by omega) (hup hf212 (by omega) (hup hf210 (by omega) (fr208 _ _ (by omega) (hup hf197 (by omega) (hup hf194 (by omega) (fr192 _ _ (by omega) (hup hf181 (by omega) (hup hf178 (by omega) (fr176 _ _ (by omega) (hup hf159 (by omega) (hup hf156 (by omega) (fr154 _ _ (by omega) (hup hf137 (by omega) (hup hf134 (by omega) (fr132 _ _ (by omega) (hup hf115 (by omega) (hup hf112 (by omega) (fr109 _ _ (by omega) (hup hf58 (by omega) (hup hf55 (by omega) k39)))))))))))))))))))))
  have k222 : f216 q11 = some (.inl (cy 0, 8, .inl (fun _ => 0))) := hup hf216 (by omega) (hup hf214 (by omega) (hup hf212 (by omega) (hup hf210 (by omega) (fr208 _ _ (by omega) (hup hf197 (by omega) (hup hf194 (by omega) (fr192 _ _ (by omega) (hup hf181 (by omega) (hup hf178 (by omega) (fr176 _ _ (by omega) (hup hf159 (by omega) (hup hf156 (by omega) (fr154 _ _ (by omega) (hup hf137 (by omega) (hup hf134 (by omega) (fr132 _ _ (by omega) (hup hf115 (by omega) (hup hf112 (by omega) (fr109 _ _ (by omega) (hup hf58 (by omega) (hup hf55 (by omega) k40)))))))))))))))))))))
  have k223 : f216 q12 = some (.inr (8, [.int 6, .ref q13, .int 0])) := hup hf216 (by omega) (hup hf214 (by omega) (hup hf212 (by omega) (hup hf210 (by omega) (fr208 _ _ (by omega) (hup hf197 (by omega) (hup hf194 (by omega) (fr192 _ _ (by omega) (hup hf181 (by omega) (hup hf178 (by omega) (fr176 _ _ (by omega) (hup hf159 (by omega) (hup hf156 (by omega) (fr154 _ _ (by omega) (hup hf137 (by omega) (hup hf134 (by omega) (fr132 _ _ (by omega) (hup hf115 (by omega) (hup hf112 (by omega) (fr109 _ _ (by omega) (hup hf58 (by omega) (hup hf55 (by omega) k41)))))))))))))))))))))
  have k224 : f216 q13 = some (.inl (cy 0, 66, .inl (fun _ => 0))) := hup hf216 (by omega) (hup hf214 (by omega) (hup hf212 (by omega) (hup hf210 (by omega) (fr208 _ _ (by omega) (hup hf197 (by omega) (hup hf194 (by omega) (fr192 _ _ (by omega) (hup hf181 (by omega) (hup hf178 (by omega) (fr176 _ _ (by omega) (hup hf159 (by omega) (hup hf156 (by omega) (fr154 _ _ (by omega) (hup hf137 (by omega) (hup hf134 (by omega) (fr132 _ _ (by omega) (hup hf115 (by omega) (hup hf112 (by omega) (fr109 _ _ (by omega) (hup hf58 (by omega) (hup hf55 (by omega) k42)))))))))))))))))))))
  have k225 : f216 q14 = some (.inr (8, [.int 7, .ref q15, .int 0])) := hup hf216 (by omega) (hup hf214 (by omega) (hup hf212 (by omega) (hup hf210 (by omega) (fr208 _ _ (by omega) (hup hf197 (by omega) (hup hf194 (by omega) (fr192 _ _ (by omega) (hup hf181 (by omega) (hup hf178 (by omega) (fr176 _ _ (by omega) (hup hf159 (by omega) (hup hf156 (by omega) (fr154 _ _ (by omega) (hup hf137 (by omega) (hup hf134 (by omega) (fr132 _ _ (by omega) (hup hf115 (by omega) (hup hf112 (by omega) (fr109 _ _ (by omega) (hup hf58 (by omega) (hup hf55 (by omega) k43)))))))))))))))))))))
  have k226 : f216 q15 = some (.inl (cy 0, 77, .inl (fun _ => 0))) := hup hf216 (by omega) (hup hf214 (by omega) (hup hf212 (by omega) (hup hf210 (by omega) (fr208 _ _ (by omega) (hup hf197 (by omega) (hup hf194 (by omega) (fr192 _ _ (by omega) (hup hf181 (by omega) (hup hf178 (by omega) (fr176 _ _ (by omega) (hup hf159 (by omega) (hup hf156 (by omega) (fr154 _ _ (by omega) (hup hf137 (by omega) (hup hf134 (by omega) (fr132 _ _ (by omega) (hup hf115 (by omega) (hup hf112 (by omega) (fr109 _ _ (by omega) (hup hf58 (by omega) (hup hf55 (by omega) k44)))))))))))))))))))))
  have k227 : f216 q16 = some (.inr (8, [.int 8, .ref q17, .int 0])) := hup hf216 (by omega) (hup hf214 (by omega) (hup hf212 (by omega) (hup hf210 (by omega) (fr208 _ _ (by omega) (hup hf197 (by omega) (hup hf194 (by omega) (fr192 _ _ (by omega) (hup hf181 (by omega) (hup hf178 (by omega) (fr176 _ _ (by omega) (hup hf159 (by omega) (hup hf156 (by omega) (fr154 _ _ (by omega) (hup hf137 (by omega) (hup hf134 (by omega) (fr132 _ _ (by omega) (hup hf115 (by omega) (hup hf112 (by omega) (fr109 _ _ (by omega) (hup hf58 (by omega) (hup hf55 (by omega) k45)))))))))))))))))))))
  have k228 : f216 q17 = some (.inl (cy 0, 4104, .inl (fun _ => 0))) := hup hf216 (by omega) (hup hf214 (by omega) (hup hf212 (by omega) (hup hf210 (by omega) (fr208 _ _ (by omega) (hup hf197 (by omega) (hup hf194 (by omega) (fr192 _ _ (by omega) (hup hf181 (by omega) (hup hf178 (by omega) (fr176 _ _ (by omega) (hup hf159 (by omega) (hup hf156 (by omega) (fr154 _ _ (by omega) (hup hf137 (by omega) (hup hf134 (by omega) (fr132 _ _ (by omega) (hup hf115 (by omega) (hup hf112 (by omega) (fr109 _ _ (by omega) (hup hf58 (by omega) (hup hf55 (by omega) k46)))))))))))))))))))))
  have k229 : f216 q18 = some (.inr (8, [.int 3, .ref q19, .int 0])) := hup hf216 (by omega) (hup hf214 (by omega) (hup hf212 (by omega) (hup hf210 (by omega) (fr208 _ _ (by omega) (hup hf197 (by omega) (hup hf194 (by omega) (fr192 _ _ (by omega) (hup hf181 (by omega) (hup hf178 (by omega) (fr176 _ _ (by omega) (hup hf159 (by omega) (hup hf156 (by omega) (fr154 _ _ (by omega) (hup hf137 (by omega) (hup hf134 (by omega) (fr132 _ _ (by omega) (hup hf115 (by omega) (hup hf112 (by omega) (fr109 _ _ (by omega) (hup hf58 (by omega) (hup hf55 (by omega) k47)))))))))))))))))))))
  have k230 : f216 q19 = some (.inl (cy 0, 33, .inl (fun _ => 0))) := hup hf216 (by omega) (hup hf214 (by omega) (hup hf212 (by omega) (hup hf210 (by omega) (fr208 _ _ (by omega) (hup hf197 (by omega) (hup hf194 (by omega) (fr192 _ _ (by omega) (hup hf181 (by omega) (hup hf178 (by omega) (fr176 _ _ (by omega) (hup hf159 (by omega) (hup hf156 (by omega) (fr154 _ _ (by omega) (hup hf137 (by omega) (hup hf134 (by omega) (fr132 _ _ (by omega) (hup hf115 (by omega) (hup hf112 (by omega) (fr109 _ _ (by omega) (hup hf58 (by omega) (hup hf55 (by omega) k48)))))))))))))))))))))
  have k231 : f216 q20 = some (.inr (5, [.ref q21, .int 0, .int 0, .int 0, .int (-1), .int (-1), .int 0, .int 0, .int 0])) := hup hf216 (by omega) (hup hf214 (by omega) (hup hf212 (by omega) (hup hf210 (by omega) (fr208 _ _ (by omega) (hup hf197 (by omega) (hup hf194 (by omega) (fr192 _ _ (by omega) (hup hf181 (by omega) (hup hf178 (by omega) (fr176 _ _ (by omega) (hup hf159 (by omega) (hup hf156 (by omega) (fr154 _ _ (by omega) (hup hf137 (by omega) (hup hf134 (by omega) (fr132 _ _ (by omega) (hup hf115 (by omega) (hup hf112 (by omega) (fr109 _ _ (by omega) (hup hf58 (by omega) (hup hf55 (by omega) k49)))))))))))))))))))))
  have k232 : f216 q21 = some (.inl (cy 0, 20, .inl (fun _ => 0))) := hup hf216 (by omega) (hup hf214 (by omega) (hup hf212 (by omega) (hup hf210 (by omega) (fr208 _ _ (by omega) (hup hf197 (by omega) (hup hf194 (by omega) (fr192 _ _ (by omega) (hup hf181 (by omega) (hup hf178 (by omega) (fr176 _ _ (by omega) (hup hf159 (by omega) (hup hf156 (by omega) (fr154 _ _ (by omega) (hup hf137 (by omega) (hup hf134 (by omega) (fr132 _ _ (by omega) (hup hf115 (by omega) (hup hf112 (by omega) (fr109 _ _ (by omega) (hup hf58 (by omega) k59))))))))))))))))))))
  have k233 : f216 q114 = some (.inr (3, [.ref q122, .ref q123, .ref q124, .int 0, .int 0, .int 0, .int 0, .int 0, .int 0])) := hup hf216 (by omega) (hup hf214 (by omega) (hup hf212 (by omega) (hup hf210 (by omega) (fr208 _ _ (by omega) (hup hf197 (by omega) (hup hf194 (by omega) (fr192 _ _ (by omega) (hup hf181 (by omega) (hup hf178 (by omega) (fr176 _ _ (by omega) (hup hf159 (by omega) (hup hf156 (by omega) (fr154 _ _ (by omega) (hup hf137 (by omega) (hup hf134 (by omega) k131)))))))))))))))
  have k234 : f216 q122 = some (.inr (7, [.int 0, .int 0, .int 0, .int 0, .int 0, .int 0, .int 0, .int 0, .int 0])) := hup hf216 (by omega) (hup hf214 (by omega) (hup hf212 (by omega) (hup hf210 (by omega) (fr208 _ _ (by omega) (hup hf197 (by omega) (hup hf194 (by omega) (fr192 _ _ (by omega) (hup hf181 (by omega) (hup hf178 (by omega) (fr176 _ _ (by omega) (hup hf159 (by omega) (hup hf156 (by omega) (fr154 _ _ (by omega) (hup hf137 (by omega) (hup hf134 (by omega) k128)))))))))))))))
  have k235 : f216 q123 = some (.inl (cy 4, 512, .inr (.inr (.inr (.inr (sfl q122 512)))))) := hup hf216 (by omega) (hup hf214 (by omega) (hup hf212 (by omega) (hup hf210 (by omega) (fr208 _ _ (by omega) (hup hf197 (by omega) (hup hf194 (by omega) (fr192 _ _ (by omega) (hup hf181 (by omega) (hup hf178 (by omega) (fr176 _ _ (by omega) (hup hf159 (by omega) (hup hf156 (by omega) (fr154 _ _ (by omega) (hup hf137 (by omega) (hup hf134 (by omega) k129)))))))))))))))
  have k236 : f216 q124 = some (.inl (cy 0, 512, .inl (fun _ => 0))) := hup hf216 (by omega) (hup hf214 (by omega) (hup hf212 (by omega) (hup hf210 (by omega) (fr208 _ _ (by omega) (hup hf197 (by omega) (hup hf194 (by omega) (fr192 _ _ (by omega) (hup hf181 (by omega) (hup hf178 (by omega) (fr176 _ _ (by omega) (hup hf159 (by omega) (hup hf156 (by omega) (fr154 _ _ (by omega) (hup hf137 (by omega) k138))))))))))))))
  have k237 : f216 q136 = some (.inr (3, [.ref q144, .ref q145, .ref q146, .int 0, .int 0, .int 0, .int 0, .int 0, .int 0])) := hup hf216 (by omega) (hup hf214 (by omega) (hup hf212 (by omega) (hup hf210 (by omega) (fr208 _ _ (by omega) (hup hf197 (by omega) (hup hf194 (by omega) (fr192 _ _ (by omega) (hup hf181 (by omega) (hup hf178 (by omega) (fr176 _ _ (by omega) (hup hf159 (by omega) (hup hf156 (by omega) k153))))))))))))
  have k238 : f216 q144 = some (.inr (7, [.int 0, .int 0, .int 0, .int 0, .int 0, .int 0, .int 0, .int 0, .int 0])) := hup hf216 (by omega) (hup hf214 (by omega) (hup hf212 (by omega) (hup hf210 (by omega) (fr208 _ _ (by omega) (hup hf197 (by omega) (hup hf194 (by omega) (fr192 _ _ (by omega) (hup hf181 (by omega) (hup hf178 (by omega) (fr176 _ _ (by omega) (hup hf159 (by omega) (hup hf156 (by omega) k150))))))))))))
  have k239 : f216 q145 = some (.inl (cy 4, 512, .inr (.inr (.inr (.inr (sfl q144 512)))))) := hup hf216 (by omega) (hup hf214 (by omega) (hup hf212 (by omega) (hup hf210 (by omega) (fr208 _ _ (by omega) (hup hf197 (by omega) (hup hf194 (by omega) (fr192 _ _ (by omega) (hup hf181 (by omega) (hup hf178 (by omega) (fr176 _ _ (by omega) (hup hf159 (by omega) (hup hf156 (by omega) k151))))))))))))
  have k240 : f216 q146 = some (.inl (cy 0, 512, .inl (fun _ => 0))) := hup hf216 (by omega) (hup hf214 (by omega) (hup hf212 (by omega) (hup hf210 (by omega) (fr208 _ _ (by omega) (hup hf197 (by omega) (hup hf194 (by omega) (fr192 _ _ (by omega) (hup hf181 (by omega) (hup hf178 (by omega) (fr176 _ _ (by omega) (hup hf159 (by omega) k160)))))))))))
  have k241 : f216 q158 = some (.inr (9, [.ref q166, .ref q167, .ref q168, .int 0, .int 0])) := hup hf216 (by omega) (hup hf214 (by omega) (hup hf212 (by omega) (hup hf210 (by omega) (fr208 _ _ (by omega) (hup hf197 (by omega) (hup hf194 (by omega) (fr192 _ _ (by omega) (hup hf181 (by omega) (hup hf178 (by omega) k175)))))))))
  have k242 : f216 q166 = some (.inl (cy 1, 60, .inl (fun _ => 0))) := hup hf216 (by omega) (hup hf214 (by omega) (hup hf212 (by omega) (hup hf210 (by omega) (fr208 _ _ (by omega) (hup hf197 (by omega) (hup hf194 (by omega) (fr192 _ _ (by omega) (hup hf181 (by omega) (hup hf178 (by omega) k172)))))))))
  have k243 : f216 q167 = some (.inr (7, [.int 0, .int 0, .int 0, .int 0, .int 0, .int 0, .int 0, .int 0, .int 0])) := hup hf216 (by omega) (hup hf214 (by omega) (hup hf212 (by omega) (hup hf210 (by omega) (fr208 _ _ (by omega) (hup hf197 (by omega) (hup hf194 (by omega) (fr192 _ _ (by omega) (hup hf181 (by omega) (hup hf178 (by omega) k173)))))))))
  have k244 : f216 q168 = some (.inl (cy 4, 60, .inr (.inr (.inr (.inr (sfl q167 60)))))) := hup hf216 (by omega) (hup hf214 (by omega) (hup hf212 (by omega) (hup hf210 (by omega) (fr208 _ _ (by omega) (hup hf197 (by omega) (hup hf194 (by omega) (fr192 _ _ (by omega) (hup hf181 (by omega) k182))))))))
  have k245 : f216 q180 = some (.inr (6, [.ref q188, .int 0, .int 0, .int 0])) := hup hf216 (by omega) (hup hf214 (by omega) (hup hf212 (by omega) (hup hf210 (by omega) (fr208 _ _ (by omega) (hup hf197 (by omega) (hup hf194 (by omega) k191))))))
  have k246 : f216 q188 = some (.inl (cy 2, 20, .inr (.inr (.inl (fun _ => 0))))) := hup hf216 (by omega) (hup hf214 (by omega) (hup hf212 (by omega) (hup hf210 (by omega) (fr208 _ _ (by omega) (hup hf197 (by omega) k198)))))
  have k247 : f216 q196 = some (.inr (6, [.ref q204, .int 0, .int 0, .int 0])) := hup hf216 (by omega) (hup hf214 (by omega) (hup hf212 (by omega) (hup hf210 (by omega) k207)))
  have k248 : f216 q204 = some (.inl (cy 2, 20, .inr (.inr (.inl (fun _ => 0))))) := hup hf216 (by omega) (hup hf214 (by omega) (hup hf212 (by omega) (hup hf210 (by omega) k206)))
  exact g_vret C0 G hr dX8_init_96 (Nat.le_of_ble_eq_true rfl) (Nat.le_of_ble_eq_true rfl) (by exact ⟨q1, q8, q9, q10, q11, q12, q13, q14, q15, q16, q17, q18, q19, q20, q21, q114, q122, q123, q124, q136, q144, q145, q146, q158, q166, q167, q168, q180, q188, q196, q204, q57, g22, (by omega), (by omega), (by omega), (by omega), (by omega), (by omega), (by omega), (by omega), (by omega), (by omega), (by omega), (by omega), (by omega), (by omega), (by omega), (by omega), (by omega), (by omega), (by omega), (by omega), (by omega), (by omega), (by omega), (by omega), (by omega), (by omega), (by omega), (by omega), (by omega), (by omega), (by omega), k218, k219, k220, k221, k222, k223, k224, k225, k226, k227, k228, k229, k230, k231, k232, k233, k234, k235, k236, k237, k238, k239, k240, k241, k242, k243, k244, k245, k246, k247, k248, hg53, k217, (fun a9 e9 h7 h8 => by have h6 := (Gz.1 _ _ h8).1.lt; rw [hsz] at h6; exact hup hf216 h7 (hup hf214 h7 (hup hf212 h7 (hup hf210 h7 (fr208 _ _ (Nat.ne_of_lt (Nat.lt_of_lt_of_le h6 (by omega))) (hup hf197 (Nat.ne_of_lt (Nat.lt_of_lt_of_le h6 (by omega))) (hup hf194 h7 (fr192 _ _ (Nat.ne_of_lt (Nat.lt_of_lt_of_le h6 (by omega))) (hup hf181 (Nat.ne_of_lt (Nat.lt_of_lt_of_le h6 (by omega))) (hup hf178 h7 (fr176 _ _ (Nat.ne_of_lt (Nat.lt_of_lt_of_le h6 (by omega))) (hup hf159 (Nat.ne_of_lt (Nat.lt_of_lt_of_le h6 (by omega))) (hup hf156 h7 (fr154 _ _ (Nat.ne_of_lt (Nat.lt_of_lt_of_le h6 (by omega))) (hup hf137 (Nat.ne_of_lt (Nat.lt_of_lt_of_le h6 (by omega))) (hup hf134 h7 (fr132 _ _ (Nat.ne_of_lt (Nat.lt_of_lt_of_le h6 (by omega))) (hup hf115 (Nat.ne_of_lt (Nat.lt_of_lt_of_le h6 (by omega))) (hup hf112 h7 (fr109 _ _ (Nat.ne_of_lt (Nat.lt_of_lt_of_le h6 (by omega))) (hup hf58 (Nat.ne_of_lt (Nat.lt_of_lt_of_le h6 (by omega))) (hup hf55 h7 (fr52 _ _ (Nat.ne_of_lt (Nat.lt_of_lt_of_le h6 (by omega))) (hup hf2 (Nat.ne_of_lt (Nat.lt_of_lt_of_le h6 (by omega))) (h8)))))))))))))))))))))))))⟩)
