def sfl (q i : Nat) : Nat → Option Nat := fun k => if k < i then some q else none
theorem sfl_0 (q : Nat) : sfl q 0 = fun _ => none := by funext k; simp [sfl]
theorem sfl_s (q i : Nat) : va_up (sfl q i) i (some q) = sfl q (i + 1) := by
  funext k
  by_cases h : k = i
  · subst h; simp [va_up, sfl]
  · simp only [va_up, sfl, if_neg h]
    by_cases h2 : k < i
    · rw [if_pos h2, if_pos (by omega)]
    · rw [if_neg h2, if_neg (by omega)]
def hFr (f u : Hf) (t : Nat) : Prop := ∀ (a : Nat) (e : va_E), a ≠ t → f a = some e → u a = some e
set_option maxRecDepth 100000 in
theorem k_X6_init_1_8 {l : Launch} (hfl : l.stackTraces = false) {D : va_G} {cy : Nat → ClassId} {f : Hf} {sz : Nat} {th : Nat}  (h_t : f th = some (.inr (8, [.int 0, .null, .int 0]))) : hMet l yX6_init cX6_init 3 none { frames := 1, cells := 1, slots := 8, locals := 14 } D (hTy cy) f sz [.ref th, .int 1, .int 8] (hQv (fun u => ∃ q, sz ≤ q ∧ u q = some (.inl (cy 0, 8, .inl (fun _ => 0))) ∧ u th = some (.inr (8, [.int 8, .ref q, .int 0])) ∧ hFr f u th) D f sz) hNo := by
  refine h_enter (by decide) hfl (Nat.le_of_ble_eq_true rfl) ?_
  intro p9 e9 s9 m9 b9 t9 c9 hsz C0 hr hnm G ls hl
  have hx := C0.1.1
  have hb := C0.1.2.1
  have Gz := G
  have hin : t9.name = "<init>" := hnm
  have hl : lv_has ls 3 [(0, .ref th), (1, .int 1), (2, .int 8)] := hl
  refine lv_aload_n hx hb dX6_init_0 rfl (lv_at hl 0 rfl) ?_
  refine W.objInit hx hb C0.1.2.2.2.1 (C0.2.2.2.1.1 _ mm_X6_1 rfl _) (C0.2.2.2.1.1 _ mi_java_lang_Object__init____V rfl _) (C0.2.2.2.1.1 _ mc_objinit rfl _) rfl (by rw [C0.1.2.2.1]; exact hl.1) rfl dX6_init_1 (Nat.le_of_ble_eq_true rfl) (Nat.le_of_ble_eq_true rfl) ?_
  refine W.eq (g2 := F0 m9 4 ls []) rfl ?_
  refine lv_aload_n hx hb dX6_init_4 rfl (lv_at hl 0 rfl) ?_
  refine lv_iconst (v := 0) hx hb dX6_init_5 (by decide) ?_
  refine g_put C0 G h_t rfl hiX6 tyX6 tyX6_ok nmX6 2 (by decide) mf_X6_7 rfl rfl rfl rfl (Nat.le_of_ble_eq_true rfl) dX6_init_6 (fun H locs f1 hf1 G => ?_)
  have k2 : f1 th = some (.inr (8, [.int 0, .null, .int 0])) := hus hf1
  refine lv_aload_n hx hb dX6_init_9 rfl (lv_at hl 0 rfl) ?_
  refine lv_iload_n hx hb dX6_init_10 rfl (lv_at hl 2 rfl) ?_
  refine g_putF C0 G hin k2 rfl hiX6 tyX6 tyX6_ok nmX6 0 (by decide) mf_X6_13 rfl rfl rfl rfl rfl (Nat.le_of_ble_eq_true rfl) dX6_init_11 (fun H locs f3 hf3 G => ?_)
  have k4 : f3 th = some (.inr (8, [.int 8, .null, .int 0])) := hus hf3
  refine lv_aload_n hx hb dX6_init_14 rfl (lv_at hl 0 rfl) ?_
  refine lv_iconst (v := 0) hx hb dX6_init_15 (by decide) ?_
  refine lv_iload_n hx hb dX6_init_16 rfl (lv_at hl 1 rfl) ?_
  refine lv_iload_n hx hb dX6_init_17 rfl (lv_at hl 2 rfl) ?_
  refine lv_imul hx hb dX6_init_18 ?_
  refine lv_topv (v := 8) (by decide) ?_
  refine g_max C0 mm_X6_16 hl.1 (Nat.le_of_ble_eq_true rfl) (Nat.le_of_ble_eq_true rfl) ⟨(Nat.le_of_ble_eq_true rfl), (Nat.le_of_ble_eq_true rfl)⟩ dX6_init_19 ?_
  refine lv_topv (v := 8) (by decide) ?_
  have zq7 := G.2.1
  have z9 : th < _ := (G.1 _ _ k4).1.lt
  refine g_newa (atype := .int) (ty := .int) C0 G ma_int rfl 0 rfl (n := 8) (N' := 8) (a0 := (8, .inl (fun _ => 0))) (fun cA => rfl) (by decide) rfl (Nat.le_of_ble_eq_true rfl) (Nat.le_of_ble_eq_true rfl) (Nat.le_of_ble_eq_true rfl) dX6_init_22 (fun q7 H f8 nq7 hf8 G hzq7 => ?_)
  have k10 : f8 q7 = some (.inl (cy 0, 8, .inl (fun _ => 0))) := hus hf8
  have k11 : f8 th = some (.inr (8, [.int 8, .null, .int 0])) := hup hf8 (by omega) k4
  refine g_putF C0 G hin k11 rfl hiX6 tyX6 tyX6_ok nmX6 1 (by decide) mf_X6_22 rfl rfl rfl rfl rfl (Nat.le_of_ble_eq_true rfl) dX6_init_24 (fun H locs f12 hf12 G => ?_)
  have k13 : f12 th = some (.inr (8, [.int 8, .ref q7, .int 0])) := hus hf12
  have k14 : f12 q7 = some (.inl (cy 0, 8, .inl (fun _ => 0))) := hup hf12 (by omega) k10
  exact g_vret C0 G hr dX6_init_27 (Nat.le_of_ble_eq_true rfl) (Nat.le_of_ble_eq_true rfl) (by exact ⟨q7, (by omega), k14, k13, (fun a9 e9 h7 h8 => by have h6 := (Gz.1 _ _ h8).1.lt; rw [hsz] at h6; exact hup hf12 h7 (hup hf8 (Nat.ne_of_lt (Nat.lt_of_lt_of_le h6 (by omega))) (hup hf3 h7 (hup hf1 h7 (h8)))))⟩)
set_option maxRecDepth 100000 in
theorem k_X6_init_11_6 {l : Launch} (hfl : l.stackTraces = false) {D : va_G} {cy : Nat → ClassId} {f : Hf} {sz : Nat} {th : Nat}  (h_t : f th = some (.inr (8, [.int 0, .null, .int 0]))) : hMet l yX6_init cX6_init 3 none { frames := 1, cells := 1, slots := 66, locals := 14 } D (hTy cy) f sz [.ref th, .int 11, .int 6] (hQv (fun u => ∃ q, sz ≤ q ∧ u q = some (.inl (cy 0, 66, .inl (fun _ => 0))) ∧ u th = some (.inr (8, [.int 6, .ref q, .int 0])) ∧ hFr f u th) D f sz) hNo := by
  refine h_enter (by decide) hfl (Nat.le_of_ble_eq_true rfl) ?_
  intro p9 e9 s9 m9 b9 t9 c9 hsz C0 hr hnm G ls hl
  have hx := C0.1.1
  have hb := C0.1.2.1
  have Gz := G
  have hin : t9.name = "<init>" := hnm
  have hl : lv_has ls 3 [(0, .ref th), (1, .int 11), (2, .int 6)] := hl
  refine lv_aload_n hx hb dX6_init_0 rfl (lv_at hl 0 rfl) ?_
  refine W.objInit hx hb C0.1.2.2.2.1 (C0.2.2.2.1.1 _ mm_X6_1 rfl _) (C0.2.2.2.1.1 _ mi_java_lang_Object__init____V rfl _) (C0.2.2.2.1.1 _ mc_objinit rfl _) rfl (by rw [C0.1.2.2.1]; exact hl.1) rfl dX6_init_1 (Nat.le_of_ble_eq_true rfl) (Nat.le_of_ble_eq_true rfl) ?_
  refine W.eq (g2 := F0 m9 4 ls []) rfl ?_
  refine lv_aload_n hx hb dX6_init_4 rfl (lv_at hl 0 rfl) ?_
  refine lv_iconst (v := 0) hx hb dX6_init_5 (by decide) ?_
  refine g_put C0 G h_t rfl hiX6 tyX6 tyX6_ok nmX6 2 (by decide) mf_X6_7 rfl rfl rfl rfl (Nat.le_of_ble_eq_true rfl) dX6_init_6 (fun H locs f1 hf1 G => ?_)
  have k2 : f1 th = some (.inr (8, [.int 0, .null, .int 0])) := hus hf1
  refine lv_aload_n hx hb dX6_init_9 rfl (lv_at hl 0 rfl) ?_
  refine lv_iload_n hx hb dX6_init_10 rfl (lv_at hl 2 rfl) ?_
  refine g_putF C0 G hin k2 rfl hiX6 tyX6 tyX6_ok nmX6 0 (by decide) mf_X6_13 rfl rfl rfl rfl rfl (Nat.le_of_ble_eq_true rfl) dX6_init_11 (fun H locs f3 hf3 G => ?_)
  have k4 : f3 th = some (.inr (8, [.int 6, .null, .int 0])) := hus hf3
  refine lv_aload_n hx hb dX6_init_14 rfl (lv_at hl 0 rfl) ?_
  refine lv_iconst (v := 0) hx hb dX6_init_15 (by decide) ?_
  refine lv_iload_n hx hb dX6_init_16 rfl (lv_at hl 1 rfl) ?_
  refine lv_iload_n hx hb dX6_init_17 rfl (lv_at hl 2 rfl) ?_
  refine lv_imul hx hb dX6_init_18 ?_
  refine lv_topv (v := 66) (by decide) ?_
  refine g_max C0 mm_X6_16 hl.1 (Nat.le_of_ble_eq_true rfl) (Nat.le_of_ble_eq_true rfl) ⟨(Nat.le_of_ble_eq_true rfl), (Nat.le_of_ble_eq_true rfl)⟩ dX6_init_19 ?_
  refine lv_topv (v := 66) (by decide) ?_
  have zq7 := G.2.1
  have z9 : th < _ := (G.1 _ _ k4).1.lt
  refine g_newa (atype := .int) (ty := .int) C0 G ma_int rfl 0 rfl (n := 66) (N' := 66) (a0 := (66, .inl (fun _ => 0))) (fun cA => rfl) (by decide) rfl (Nat.le_of_ble_eq_true rfl) (Nat.le_of_ble_eq_true rfl) (Nat.le_of_ble_eq_true rfl) dX6_init_22 (fun q7 H f8 nq7 hf8 G hzq7 => ?_)
  have k10 : f8 q7 = some (.inl (cy 0, 66, .inl (fun _ => 0))) := hus hf8
  have k11 : f8 th = some (.inr (8, [.int 6, .null, .int 0])) := hup hf8 (by omega) k4
  refine g_putF C0 G hin k11 rfl hiX6 tyX6 tyX6_ok nmX6 1 (by decide) mf_X6_22 rfl rfl rfl rfl rfl (Nat.le_of_ble_eq_true rfl) dX6_init_24 (fun H locs f12 hf12 G => ?_)
  have k13 : f12 th = some (.inr (8, [.int 6, .ref q7, .int 0])) := hus hf12
  have k14 : f12 q7 = some (.inl (cy 0, 66, .inl (fun _ => 0))) := hup hf12 (by omega) k10
  exact g_vret C0 G hr dX6_init_27 (Nat.le_of_ble_eq_true rfl) (Nat.le_of_ble_eq_true rfl) (by exact ⟨q7, (by omega), k14, k13, (fun a9 e9 h7 h8 => by have h6 := (Gz.1 _ _ h8).1.lt; rw [hsz] at h6; exact hup hf12 h7 (hup hf8 (Nat.ne_of_lt (Nat.lt_of_lt_of_le h6 (by omega))) (hup hf3 h7 (hup hf1 h7 (h8)))))⟩)
set_option maxRecDepth 100000 in
theorem k_X6_init_11_7 {l : Launch} (hfl : l.stackTraces = false) {D : va_G} {cy : Nat → ClassId} {f : Hf} {sz : Nat} {th : Nat}  (h_t : f th = some (.inr (8, [.int 0, .null, .int 0]))) : hMet l yX6_init cX6_init 3 none { frames := 1, cells := 1, slots := 77, locals := 14 } D (hTy cy) f sz [.ref th, .int 11, .int 7] (hQv (fun u => ∃ q, sz ≤ q ∧ u q = some (.inl (cy 0, 77, .inl (fun _ => 0))) ∧ u th = some (.inr (8, [.int 7, .ref q, .int 0])) ∧ hFr f u th) D f sz) hNo := by
  refine h_enter (by decide) hfl (Nat.le_of_ble_eq_true rfl) ?_
  intro p9 e9 s9 m9 b9 t9 c9 hsz C0 hr hnm G ls hl
  have hx := C0.1.1
  have hb := C0.1.2.1
  have Gz := G
  have hin : t9.name = "<init>" := hnm
  have hl : lv_has ls 3 [(0, .ref th), (1, .int 11), (2, .int 7)] := hl
  refine lv_aload_n hx hb dX6_init_0 rfl (lv_at hl 0 rfl) ?_
  refine W.objInit hx hb C0.1.2.2.2.1 (C0.2.2.2.1.1 _ mm_X6_1 rfl _) (C0.2.2.2.1.1 _ mi_java_lang_Object__init____V rfl _) (C0.2.2.2.1.1 _ mc_objinit rfl _) rfl (by rw [C0.1.2.2.1]; exact hl.1) rfl dX6_init_1 (Nat.le_of_ble_eq_true rfl) (Nat.le_of_ble_eq_true rfl) ?_
  refine W.eq (g2 := F0 m9 4 ls []) rfl ?_
  refine lv_aload_n hx hb dX6_init_4 rfl (lv_at hl 0 rfl) ?_
  refine lv_iconst (v := 0) hx hb dX6_init_5 (by decide) ?_
  refine g_put C0 G h_t rfl hiX6 tyX6 tyX6_ok nmX6 2 (by decide) mf_X6_7 rfl rfl rfl rfl (Nat.le_of_ble_eq_true rfl) dX6_init_6 (fun H locs f1 hf1 G => ?_)
  have k2 : f1 th = some (.inr (8, [.int 0, .null, .int 0])) := hus hf1
  refine lv_aload_n hx hb dX6_init_9 rfl (lv_at hl 0 rfl) ?_
  refine lv_iload_n hx hb dX6_init_10 rfl (lv_at hl 2 rfl) ?_
  refine g_putF C0 G hin k2 rfl hiX6 tyX6 tyX6_ok nmX6 0 (by decide) mf_X6_13 rfl rfl rfl rfl rfl (Nat.le_of_ble_eq_true rfl) dX6_init_11 (fun H locs f3 hf3 G => ?_)
  have k4 : f3 th = some (.inr (8, [.int 7, .null, .int 0])) := hus hf3
  refine lv_aload_n hx hb dX6_init_14 rfl (lv_at hl 0 rfl) ?_
  refine lv_iconst (v := 0) hx hb dX6_init_15 (by decide) ?_
  refine lv_iload_n hx hb dX6_init_16 rfl (lv_at hl 1 rfl) ?_
  refine lv_iload_n hx hb dX6_init_17 rfl (lv_at hl 2 rfl) ?_
  refine lv_imul hx hb dX6_init_18 ?_
  refine lv_topv (v := 77) (by decide) ?_
  refine g_max C0 mm_X6_16 hl.1 (Nat.le_of_ble_eq_true rfl) (Nat.le_of_ble_eq_true rfl) ⟨(Nat.le_of_ble_eq_true rfl), (Nat.le_of_ble_eq_true rfl)⟩ dX6_init_19 ?_
  refine lv_topv (v := 77) (by decide) ?_
  have zq7 := G.2.1
  have z9 : th < _ := (G.1 _ _ k4).1.lt
  refine g_newa (atype := .int) (ty := .int) C0 G ma_int rfl 0 rfl (n := 77) (N' := 77) (a0 := (77, .inl (fun _ => 0))) (fun cA => rfl) (by decide) rfl (Nat.le_of_ble_eq_true rfl) (Nat.le_of_ble_eq_true rfl) (Nat.le_of_ble_eq_true rfl) dX6_init_22 (fun q7 H f8 nq7 hf8 G hzq7 => ?_)
  have k10 : f8 q7 = some (.inl (cy 0, 77, .inl (fun _ => 0))) := hus hf8
  have k11 : f8 th = some (.inr (8, [.int 7, .null, .int 0])) := hup hf8 (by omega) k4
  refine g_putF C0 G hin k11 rfl hiX6 tyX6 tyX6_ok nmX6 1 (by decide) mf_X6_22 rfl rfl rfl rfl rfl (Nat.le_of_ble_eq_true rfl) dX6_init_24 (fun H locs f12 hf12 G => ?_)
  have k13 : f12 th = some (.inr (8, [.int 7, .ref q7, .int 0])) := hus hf12
  have k14 : f12 q7 = some (.inl (cy 0, 77, .inl (fun _ => 0))) := hup hf12 (by omega) k10
  exact g_vret C0 G hr dX6_init_27 (Nat.le_of_ble_eq_true rfl) (Nat.le_of_ble_eq_true rfl) (by exact ⟨q7, (by omega), k14, k13, (fun a9 e9 h7 h8 => by have h6 := (Gz.1 _ _ h8).1.lt; rw [hsz] at h6; exact hup hf12 h7 (hup hf8 (Nat.ne_of_lt (Nat.lt_of_lt_of_le h6 (by omega))) (hup hf3 h7 (hup hf1 h7 (h8)))))⟩)
set_option maxRecDepth 100000 in
theorem k_X6_init_513_8 {l : Launch} (hfl : l.stackTraces = false) {D : va_G} {cy : Nat → ClassId} {f : Hf} {sz : Nat} {th : Nat}  (h_t : f th = some (.inr (8, [.int 0, .null, .int 0]))) : hMet l yX6_init cX6_init 3 none { frames := 1, cells := 1, slots := 4104, locals := 14 } D (hTy cy) f sz [.ref th, .int 513, .int 8] (hQv (fun u => ∃ q, sz ≤ q ∧ u q = some (.inl (cy 0, 4104, .inl (fun _ => 0))) ∧ u th = some (.inr (8, [.int 8, .ref q, .int 0])) ∧ hFr f u th) D f sz) hNo := by
  refine h_enter (by decide) hfl (Nat.le_of_ble_eq_true rfl) ?_
  intro p9 e9 s9 m9 b9 t9 c9 hsz C0 hr hnm G ls hl
  have hx := C0.1.1
  have hb := C0.1.2.1
  have Gz := G
  have hin : t9.name = "<init>" := hnm
  have hl : lv_has ls 3 [(0, .ref th), (1, .int 513), (2, .int 8)] := hl
  refine lv_aload_n hx hb dX6_init_0 rfl (lv_at hl 0 rfl) ?_
  refine W.objInit hx hb C0.1.2.2.2.1 (C0.2.2.2.1.1 _ mm_X6_1 rfl _) (C0.2.2.2.1.1 _ mi_java_lang_Object__init____V rfl _) (C0.2.2.2.1.1 _ mc_objinit rfl _) rfl (by rw [C0.1.2.2.1]; exact hl.1) rfl dX6_init_1 (Nat.le_of_ble_eq_true rfl) (Nat.le_of_ble_eq_true rfl) ?_
  refine W.eq (g2 := F0 m9 4 ls []) rfl ?_
  refine lv_aload_n hx hb dX6_init_4 rfl (lv_at hl 0 rfl) ?_
  refine lv_iconst (v := 0) hx hb dX6_init_5 (by decide) ?_
  refine g_put C0 G h_t rfl hiX6 tyX6 tyX6_ok nmX6 2 (by decide) mf_X6_7 rfl rfl rfl rfl (Nat.le_of_ble_eq_true rfl) dX6_init_6 (fun H locs f1 hf1 G => ?_)
  have k2 : f1 th = some (.inr (8, [.int 0, .null, .int 0])) := hus hf1
  refine lv_aload_n hx hb dX6_init_9 rfl (lv_at hl 0 rfl) ?_
  refine lv_iload_n hx hb dX6_init_10 rfl (lv_at hl 2 rfl) ?_
  refine g_putF C0 G hin k2 rfl hiX6 tyX6 tyX6_ok nmX6 0 (by decide) mf_X6_13 rfl rfl rfl rfl rfl (Nat.le_of_ble_eq_true rfl) dX6_init_11 (fun H locs f3 hf3 G => ?_)
  have k4 : f3 th = some (.inr (8, [.int 8, .null, .int 0])) := hus hf3
  refine lv_aload_n hx hb dX6_init_14 rfl (lv_at hl 0 rfl) ?_
  refine lv_iconst (v := 0) hx hb dX6_init_15 (by decide) ?_
  refine lv_iload_n hx hb dX6_init_16 rfl (lv_at hl 1 rfl) ?_
  refine lv_iload_n hx hb dX6_init_17 rfl (lv_at hl 2 rfl) ?_
  refine lv_imul hx hb dX6_init_18 ?_
  refine lv_topv (v := 4104) (by decide) ?_
  refine g_max C0 mm_X6_16 hl.1 (Nat.le_of_ble_eq_true rfl) (Nat.le_of_ble_eq_true rfl) ⟨(Nat.le_of_ble_eq_true rfl), (Nat.le_of_ble_eq_true rfl)⟩ dX6_init_19 ?_
  refine lv_topv (v := 4104) (by decide) ?_
  have zq7 := G.2.1
  have z9 : th < _ := (G.1 _ _ k4).1.lt
  refine g_newa (atype := .int) (ty := .int) C0 G ma_int rfl 0 rfl (n := 4104) (N' := 4104) (a0 := (4104, .inl (fun _ => 0))) (fun cA => rfl) (by decide) rfl (Nat.le_of_ble_eq_true rfl) (Nat.le_of_ble_eq_true rfl) (Nat.le_of_ble_eq_true rfl) dX6_init_22 (fun q7 H f8 nq7 hf8 G hzq7 => ?_)
  have k10 : f8 q7 = some (.inl (cy 0, 4104, .inl (fun _ => 0))) := hus hf8
  have k11 : f8 th = some (.inr (8, [.int 8, .null, .int 0])) := hup hf8 (by omega) k4
  refine g_putF C0 G hin k11 rfl hiX6 tyX6 tyX6_ok nmX6 1 (by decide) mf_X6_22 rfl rfl rfl rfl rfl (Nat.le_of_ble_eq_true rfl) dX6_init_24 (fun H locs f12 hf12 G => ?_)
  have k13 : f12 th = some (.inr (8, [.int 8, .ref q7, .int 0])) := hus hf12
  have k14 : f12 q7 = some (.inl (cy 0, 4104, .inl (fun _ => 0))) := hup hf12 (by omega) k10
  exact g_vret C0 G hr dX6_init_27 (Nat.le_of_ble_eq_true rfl) (Nat.le_of_ble_eq_true rfl) (by exact ⟨q7, (by omega), k14, k13, (fun a9 e9 h7 h8 => by have h6 := (Gz.1 _ _ h8).1.lt; rw [hsz] at h6; exact hup hf12 h7 (hup hf8 (Nat.ne_of_lt (Nat.lt_of_lt_of_le h6 (by omega))) (hup hf3 h7 (hup hf1 h7 (h8)))))⟩)
set_option maxRecDepth 100000 in
theorem k_X6_init_11_3 {l : Launch} (hfl : l.stackTraces = false) {D : va_G} {cy : Nat → ClassId} {f : Hf} {sz : Nat} {th : Nat}  (h_t : f th = some (.inr (8, [.int 0, .null, .int 0]))) : hMet l yX6_init cX6_init 3 none { frames := 1, cells := 1, slots := 33, locals := 14 } D (hTy cy) f sz [.ref th, .int 11, .int 3] (hQv (fun u => ∃ q, sz ≤ q ∧ u q = some (.inl (cy 0, 33, .inl (fun _ => 0))) ∧ u th = some (.inr (8, [.int 3, .ref q, .int 0])) ∧ hFr f u th) D f sz) hNo := by
  refine h_enter (by decide) hfl (Nat.le_of_ble_eq_true rfl) ?_
  intro p9 e9 s9 m9 b9 t9 c9 hsz C0 hr hnm G ls hl
  have hx := C0.1.1
  have hb := C0.1.2.1
  have Gz := G
  have hin : t9.name = "<init>" := hnm
  have hl : lv_has ls 3 [(0, .ref th), (1, .int 11), (2, .int 3)] := hl
  refine lv_aload_n hx hb dX6_init_0 rfl (lv_at hl 0 rfl) ?_
  refine W.objInit hx hb C0.1.2.2.2.1 (C0.2.2.2.1.1 _ mm_X6_1 rfl _) (C0.2.2.2.1.1 _ mi_java_lang_Object__init____V rfl _) (C0.2.2.2.1.1 _ mc_objinit rfl _) rfl (by rw [C0.1.2.2.1]; exact hl.1) rfl dX6_init_1 (Nat.le_of_ble_eq_true rfl) (Nat.le_of_ble_eq_true rfl) ?_
  refine W.eq (g2 := F0 m9 4 ls []) rfl ?_
  refine lv_aload_n hx hb dX6_init_4 rfl (lv_at hl 0 rfl) ?_
  refine lv_iconst (v := 0) hx hb dX6_init_5 (by decide) ?_
  refine g_put C0 G h_t rfl hiX6 tyX6 tyX6_ok nmX6 2 (by decide) mf_X6_7 rfl rfl rfl rfl (Nat.le_of_ble_eq_true rfl) dX6_init_6 (fun H locs f1 hf1 G => ?_)
  have k2 : f1 th = some (.inr (8, [.int 0, .null, .int 0])) := hus hf1
  refine lv_aload_n hx hb dX6_init_9 rfl (lv_at hl 0 rfl) ?_
  refine lv_iload_n hx hb dX6_init_10 rfl (lv_at hl 2 rfl) ?_
  refine g_putF C0 G hin k2 rfl hiX6 tyX6 tyX6_ok nmX6 0 (by decide) mf_X6_13 rfl rfl rfl rfl rfl (Nat.le_of_ble_eq_true rfl) dX6_init_11 (fun H locs f3 hf3 G => ?_)
  have k4 : f3 th = some (.inr (8, [.int 3, .null, .int 0])) := hus hf3
  refine lv_aload_n hx hb dX6_init_14 rfl (lv_at hl 0 rfl) ?_
  refine lv_iconst (v := 0) hx hb dX6_init_15 (by decide) ?_
  refine lv_iload_n hx hb dX6_init_16 rfl (lv_at hl 1 rfl) ?_
  refine lv_iload_n hx hb dX6_init_17 rfl (lv_at hl 2 rfl) ?_
  refine lv_imul hx hb dX6_init_18 ?_
  refine lv_topv (v := 33) (by decide) ?_
  refine g_max C0 mm_X6_16 hl.1 (Nat.le_of_ble_eq_true rfl) (Nat.le_of_ble_eq_true rfl) ⟨(Nat.le_of_ble_eq_true rfl), (Nat.le_of_ble_eq_true rfl)⟩ dX6_init_19 ?_
  refine lv_topv (v := 33) (by decide) ?_
  have zq7 := G.2.1
  have z9 : th < _ := (G.1 _ _ k4).1.lt
  refine g_newa (atype := .int) (ty := .int) C0 G ma_int rfl 0 rfl (n := 33) (N' := 33) (a0 := (33, .inl (fun _ => 0))) (fun cA => rfl) (by decide) rfl (Nat.le_of_ble_eq_true rfl) (Nat.le_of_ble_eq_true rfl) (Nat.le_of_ble_eq_true rfl) dX6_init_22 (fun q7 H f8 nq7 hf8 G hzq7 => ?_)
  have k10 : f8 q7 = some (.inl (cy 0, 33, .inl (fun _ => 0))) := hus hf8
  have k11 : f8 th = some (.inr (8, [.int 3, .null, .int 0])) := hup hf8 (by omega) k4
  refine g_putF C0 G hin k11 rfl hiX6 tyX6 tyX6_ok nmX6 1 (by decide) mf_X6_22 rfl rfl rfl rfl rfl (Nat.le_of_ble_eq_true rfl) dX6_init_24 (fun H locs f12 hf12 G => ?_)
  have k13 : f12 th = some (.inr (8, [.int 3, .ref q7, .int 0])) := hus hf12
  have k14 : f12 q7 = some (.inl (cy 0, 33, .inl (fun _ => 0))) := hup hf12 (by omega) k10
  exact g_vret C0 G hr dX6_init_27 (Nat.le_of_ble_eq_true rfl) (Nat.le_of_ble_eq_true rfl) (by exact ⟨q7, (by omega), k14, k13, (fun a9 e9 h7 h8 => by have h6 := (Gz.1 _ _ h8).1.lt; rw [hsz] at h6; exact hup hf12 h7 (hup hf8 (Nat.ne_of_lt (Nat.lt_of_lt_of_le h6 (by omega))) (hup hf3 h7 (hup hf1 h7 (h8)))))⟩)
set_option maxRecDepth 100000 in
theorem k_X3_init {l : Launch} (hfl : l.stackTraces = false) {D : va_G} {cy : Nat → ClassId} {f : Hf} {sz : Nat} {th : Nat}  (h_t : f th = some (.inr (5, [.null, .int 0, .int 0, .int 0, .int 0, .int 0, .int 0, .int 0, .int 0]))) : hMet l yX3_init cX3_init 1 none { frames := 1, cells := 1, slots := 20, locals := 12 } D (hTy cy) f sz [.ref th] (hQv (fun u => ∃ q, sz ≤ q ∧ u q = some (.inl (cy 0, 20, .inl (fun _ => 0))) ∧ u th = some (.inr (5, [.ref q, .int 0, .int 0, .int 0, .int (-1), .int (-1), .int 0, .int 0, .int 0])) ∧ hFr f u th) D f sz) hNo := by
  refine h_enter (by decide) hfl (Nat.le_of_ble_eq_true rfl) ?_
  intro p9 e9 s9 m9 b9 t9 c9 hsz C0 hr hnm G ls hl
  have hx := C0.1.1
  have hb := C0.1.2.1
  have Gz := G
  have hin : t9.name = "<init>" := hnm
  have hl : lv_has ls 1 [(0, .ref th)] := hl
  refine lv_aload_n hx hb dX3_init_0 rfl (lv_at hl 0 rfl) ?_
  refine W.objInit hx hb C0.1.2.2.2.1 (C0.2.2.2.1.1 _ mm_X3_3 rfl _) (C0.2.2.2.1.1 _ mi_java_lang_Object__init____V rfl _) (C0.2.2.2.1.1 _ mc_objinit rfl _) rfl (by rw [C0.1.2.2.1]; exact hl.1) rfl dX3_init_1 (Nat.le_of_ble_eq_true rfl) (Nat.le_of_ble_eq_true rfl) ?_
  refine W.eq (g2 := F0 m9 4 ls []) rfl ?_
  refine lv_aload_n hx hb dX3_init_4 rfl (lv_at hl 0 rfl) ?_
  refine lv_bipush (v := 20) hx hb dX3_init_5 (by decide) ?_
  have zq3 := G.2.1
  have z5 : th < _ := (G.1 _ _ h_t).1.lt
  refine g_newa (atype := .int) (ty := .int) C0 G ma_int rfl 0 rfl (n := 20) (N' := 20) (a0 := (20, .inl (fun _ => 0))) (fun cA => rfl) (by decide) rfl (Nat.le_of_ble_eq_true rfl) (Nat.le_of_ble_eq_true rfl) (Nat.le_of_ble_eq_true rfl) dX3_init_7 (fun q3 H f4 nq3 hf4 G hzq3 => ?_)
  have k6 : f4 q3 = some (.inl (cy 0, 20, .inl (fun _ => 0))) := hus hf4
  have k7 : f4 th = some (.inr (5, [.null, .int 0, .int 0, .int 0, .int 0, .int 0, .int 0, .int 0, .int 0])) := hup hf4 (by omega) h_t
  refine g_putF C0 G hin k7 rfl hiX3 tyX3 tyX3_ok nmX3 0 (by decide) mf_X3_9 rfl rfl rfl rfl rfl (Nat.le_of_ble_eq_true rfl) dX3_init_9 (fun H locs f8 hf8 G => ?_)
  have k9 : f8 th = some (.inr (5, [.ref q3, .int 0, .int 0, .int 0, .int 0, .int 0, .int 0, .int 0, .int 0])) := hus hf8
  refine lv_aload_n hx hb dX3_init_12 rfl (lv_at hl 0 rfl) ?_
  refine lv_iconst (v := 0) hx hb dX3_init_13 (by decide) ?_
  refine g_put C0 G k9 rfl hiX3 tyX3 tyX3_ok nmX3 1 (by decide) mf_X3_15 rfl rfl rfl rfl (Nat.le_of_ble_eq_true rfl) dX3_init_14 (fun H locs f10 hf10 G => ?_)
  have k11 : f10 th = some (.inr (5, [.ref q3, .int 0, .int 0, .int 0, .int 0, .int 0, .int 0, .int 0, .int 0])) := hus hf10
  refine lv_aload_n hx hb dX3_init_17 rfl (lv_at hl 0 rfl) ?_
  refine lv_iconst (v := 0) hx hb dX3_init_18 (by decide) ?_
  refine g_put C0 G k11 rfl hiX3 tyX3 tyX3_ok nmX3 2 (by decide) mf_X3_19 rfl rfl rfl rfl (Nat.le_of_ble_eq_true rfl) dX3_init_19 (fun H locs f12 hf12 G => ?_)
  have k13 : f12 th = some (.inr (5, [.ref q3, .int 0, .int 0, .int 0, .int 0, .int 0, .int 0, .int 0, .int 0])) := hus hf12
  refine lv_aload_n hx hb dX3_init_22 rfl (lv_at hl 0 rfl) ?_
  refine lv_iconst (v := 0) hx hb dX3_init_23 (by decide) ?_
  refine g_put C0 G k13 rfl hiX3 tyX3 tyX3_ok nmX3 3 (by decide) mf_X3_22 rfl rfl rfl rfl (Nat.le_of_ble_eq_true rfl) dX3_init_24 (fun H locs f14 hf14 G => ?_)
  have k15 : f14 th = some (.inr (5, [.ref q3, .int 0, .int 0, .int 0, .int 0, .int 0, .int 0, .int 0, .int 0])) := hus hf14
  refine lv_aload_n hx hb dX3_init_27 rfl (lv_at hl 0 rfl) ?_
  refine lv_iconst (v := (-1)) hx hb dX3_init_28 (by decide) ?_
  refine g_put C0 G k15 rfl hiX3 tyX3 tyX3_ok nmX3 4 (by decide) mf_X3_25 rfl rfl rfl rfl (Nat.le_of_ble_eq_true rfl) dX3_init_29 (fun H locs f16 hf16 G => ?_)
  have k17 : f16 th = some (.inr (5, [.ref q3, .int 0, .int 0, .int 0, .int (-1), .int 0, .int 0, .int 0, .int 0])) := hus hf16
  refine lv_aload_n hx hb dX3_init_32 rfl (lv_at hl 0 rfl) ?_
  refine lv_iconst (v := (-1)) hx hb dX3_init_33 (by decide) ?_
  refine g_put C0 G k17 rfl hiX3 tyX3 tyX3_ok nmX3 5 (by decide) mf_X3_28 rfl rfl rfl rfl (Nat.le_of_ble_eq_true rfl) dX3_init_34 (fun H locs f18 hf18 G => ?_)
  have k19 : f18 th = some (.inr (5, [.ref q3, .int 0, .int 0, .int 0, .int (-1), .int (-1), .int 0, .int 0, .int 0])) := hus hf18
  refine lv_aload_n hx hb dX3_init_37 rfl (lv_at hl 0 rfl) ?_
  refine lv_iconst (v := 0) hx hb dX3_init_38 (by decide) ?_
  refine g_put C0 G k19 rfl hiX3 tyX3 tyX3_ok nmX3 6 (by decide) mf_X3_31 rfl rfl rfl rfl (Nat.le_of_ble_eq_true rfl) dX3_init_39 (fun H locs f20 hf20 G => ?_)
  have k21 : f20 th = some (.inr (5, [.ref q3, .int 0, .int 0, .int 0, .int (-1), .int (-1), .int 0, .int 0, .int 0])) := hus hf20
  refine lv_aload_n hx hb dX3_init_42 rfl (lv_at hl 0 rfl) ?_
  refine lv_iconst (v := 0) hx hb dX3_init_43 (by decide) ?_
  refine g_put C0 G k21 rfl hiX3 tyX3 tyX3_ok nmX3 7 (by decide) mf_X3_34 rfl rfl rfl rfl (Nat.le_of_ble_eq_true rfl) dX3_init_44 (fun H locs f22 hf22 G => ?_)
  have k23 : f22 th = some (.inr (5, [.ref q3, .int 0, .int 0, .int 0, .int (-1), .int (-1), .int 0, .int 0, .int 0])) := hus hf22
  refine lv_aload_n hx hb dX3_init_47 rfl (lv_at hl 0 rfl) ?_
  refine lv_iconst (v := 0) hx hb dX3_init_48 (by decide) ?_
  refine g_put C0 G k23 rfl hiX3 tyX3 tyX3_ok nmX3 8 (by decide) mf_X3_37 rfl rfl rfl rfl (Nat.le_of_ble_eq_true rfl) dX3_init_49 (fun H locs f24 hf24 G => ?_)
  have k25 : f24 th = some (.inr (5, [.ref q3, .int 0, .int 0, .int 0, .int (-1), .int (-1), .int 0, .int 0, .int 0])) := hus hf24
  have k26 : f24 q3 = some (.inl (cy 0, 20, .inl (fun _ => 0))) := hup hf24 (by omega) (hup hf22 (by omega) (hup hf20 (by omega) (hup hf18 (by omega) (hup hf16 (by omega) (hup hf14 (by omega) (hup hf12 (by omega) (hup hf10 (by omega) (hup hf8 (by omega) k6))))))))
  exact g_vret C0 G hr dX3_init_52 (Nat.le_of_ble_eq_true rfl) (Nat.le_of_ble_eq_true rfl) (by exact ⟨q3, (by omega), k26, k25, (fun a9 e9 h7 h8 => by have h6 := (Gz.1 _ _ h8).1.lt; rw [hsz] at h6; exact hup hf24 h7 (hup hf22 h7 (hup hf20 h7 (hup hf18 h7 (hup hf16 h7 (hup hf14 h7 (hup hf12 h7 (hup hf10 h7 (hup hf8 h7 (hup hf4 (Nat.ne_of_lt (Nat.lt_of_lt_of_le h6 (by omega))) (h8)))))))))))⟩)
set_option maxRecDepth 100000 in
theorem k_X5_init {l : Launch} (hfl : l.stackTraces = false) {D : va_G} {cy : Nat → ClassId} {f : Hf} {sz : Nat} {th : Nat} (ty : Int32) (h_t : f th = some (.inr (7, [.int 0, .int 0, .int 0, .int 0, .int 0, .int 0, .int 0, .int 0, .int 0]))) : hMet l yX5_init cX5_init 2 none { frames := 1, cells := 0, slots := 0, locals := 12 } D (hTy cy) f sz [.ref th, .int ty] (hQv (fun u => u th = some (.inr (7, [.int ty, .int 0, .int 0, .int 0, .int 0, .int 0, .int 0, .int 0, .int 0])) ∧ hFr f u th) D f sz) hNo := by
  refine h_enter (by decide) hfl (Nat.le_of_ble_eq_true rfl) ?_
  intro p9 e9 s9 m9 b9 t9 c9 hsz C0 hr hnm G ls hl
  have hx := C0.1.1
  have hb := C0.1.2.1
  have Gz := G
  have hin : t9.name = "<init>" := hnm
  have hl : lv_has ls 2 [(0, .ref th), (1, .int ty)] := hl
  refine lv_aload_n hx hb dX5_init_0 rfl (lv_at hl 0 rfl) ?_
  refine W.objInit hx hb C0.1.2.2.2.1 (C0.2.2.2.1.1 _ mm_X5_3 rfl _) (C0.2.2.2.1.1 _ mi_java_lang_Object__init____V rfl _) (C0.2.2.2.1.1 _ mc_objinit rfl _) rfl (by rw [C0.1.2.2.1]; exact hl.1) rfl dX5_init_1 (Nat.le_of_ble_eq_true rfl) (Nat.le_of_ble_eq_true rfl) ?_
  refine W.eq (g2 := F0 m9 4 ls []) rfl ?_
  refine lv_aload_n hx hb dX5_init_4 rfl (lv_at hl 0 rfl) ?_
  refine lv_iload_n hx hb dX5_init_5 rfl (lv_at hl 1 rfl) ?_
  refine g_putF C0 G hin h_t rfl hiX5 tyX5 tyX5_ok nmX5 0 (by decide) mf_X5_9 rfl rfl rfl rfl rfl (Nat.le_of_ble_eq_true rfl) dX5_init_6 (fun H locs f1 hf1 G => ?_)
  have k2 : f1 th = some (.inr (7, [.int ty, .int 0, .int 0, .int 0, .int 0, .int 0, .int 0, .int 0, .int 0])) := hus hf1
  exact g_vret C0 G hr dX5_init_9 (Nat.le_of_ble_eq_true rfl) (Nat.le_of_ble_eq_true rfl) (by exact ⟨k2, (fun a9 e9 h7 h8 => by have h6 := (Gz.1 _ _ h8).1.lt; rw [hsz] at h6; exact hup hf1 h7 (h8))⟩)
set_option maxRecDepth 100000 in
theorem k_X4_init {l : Launch} (hfl : l.stackTraces = false) {D : va_G} {cy : Nat → ClassId} {f : Hf} {sz : Nat} {th : Nat}  (h_t : f th = some (.inr (6, [.null, .int 0, .int 0, .int 0]))) : hMet l yX4_init cX4_init 1 none { frames := 1, cells := 1, slots := 20, locals := 12 } D (hTy cy) f sz [.ref th] (hQv (fun u => ∃ q, sz ≤ q ∧ u q = some (.inl (cy 2, 20, .inr (.inr (.inl (fun _ => 0))))) ∧ u th = some (.inr (6, [.ref q, .int 0, .int 0, .int 0])) ∧ hFr f u th) D f sz) hNo := by
  refine h_enter (by decide) hfl (Nat.le_of_ble_eq_true rfl) ?_
  intro p9 e9 s9 m9 b9 t9 c9 hsz C0 hr hnm G ls hl
  have hx := C0.1.1
  have hb := C0.1.2.1
  have Gz := G
  have hin : t9.name = "<init>" := hnm
  have hl : lv_has ls 1 [(0, .ref th)] := hl
  refine lv_aload_n hx hb dX4_init_0 rfl (lv_at hl 0 rfl) ?_
  refine W.objInit hx hb C0.1.2.2.2.1 (C0.2.2.2.1.1 _ mm_X4_3 rfl _) (C0.2.2.2.1.1 _ mi_java_lang_Object__init____V rfl _) (C0.2.2.2.1.1 _ mc_objinit rfl _) rfl (by rw [C0.1.2.2.1]; exact hl.1) rfl dX4_init_1 (Nat.le_of_ble_eq_true rfl) (Nat.le_of_ble_eq_true rfl) ?_
  refine W.eq (g2 := F0 m9 4 ls []) rfl ?_
  refine lv_aload_n hx hb dX4_init_4 rfl (lv_at hl 0 rfl) ?_
  refine lv_bipush (v := 20) hx hb dX4_init_5 (by decide) ?_
  have zq3 := G.2.1
  have z5 : th < _ := (G.1 _ _ h_t).1.lt
  refine g_newa (atype := .float) (ty := .float) C0 G ma_float rfl 2 rfl (n := 20) (N' := 20) (a0 := (20, .inr (.inr (.inl (fun _ => 0))))) (fun cA => rfl) (by decide) rfl (Nat.le_of_ble_eq_true rfl) (Nat.le_of_ble_eq_true rfl) (Nat.le_of_ble_eq_true rfl) dX4_init_7 (fun q3 H f4 nq3 hf4 G hzq3 => ?_)
  have k6 : f4 q3 = some (.inl (cy 2, 20, .inr (.inr (.inl (fun _ => 0))))) := hus hf4
  have k7 : f4 th = some (.inr (6, [.null, .int 0, .int 0, .int 0])) := hup hf4 (by omega) h_t
  refine g_putF C0 G hin k7 rfl hiX4 tyX4 tyX4_ok nmX4 0 (by decide) mf_X4_9 rfl rfl rfl rfl rfl (Nat.le_of_ble_eq_true rfl) dX4_init_9 (fun H locs f8 hf8 G => ?_)
  have k9 : f8 th = some (.inr (6, [.ref q3, .int 0, .int 0, .int 0])) := hus hf8
  refine lv_aload_n hx hb dX4_init_12 rfl (lv_at hl 0 rfl) ?_
  refine lv_iconst (v := 0) hx hb dX4_init_13 (by decide) ?_
  refine g_put C0 G k9 rfl hiX4 tyX4 tyX4_ok nmX4 1 (by decide) mf_X4_15 rfl rfl rfl rfl (Nat.le_of_ble_eq_true rfl) dX4_init_14 (fun H locs f10 hf10 G => ?_)
  have k11 : f10 th = some (.inr (6, [.ref q3, .int 0, .int 0, .int 0])) := hus hf10
  refine lv_aload_n hx hb dX4_init_17 rfl (lv_at hl 0 rfl) ?_
  refine lv_iconst (v := 0) hx hb dX4_init_18 (by decide) ?_
  refine g_put C0 G k11 rfl hiX4 tyX4 tyX4_ok nmX4 2 (by decide) mf_X4_19 rfl rfl rfl rfl (Nat.le_of_ble_eq_true rfl) dX4_init_19 (fun H locs f12 hf12 G => ?_)
  have k13 : f12 th = some (.inr (6, [.ref q3, .int 0, .int 0, .int 0])) := hus hf12
  refine lv_aload_n hx hb dX4_init_22 rfl (lv_at hl 0 rfl) ?_
  refine lv_iconst (v := 0) hx hb dX4_init_23 (by decide) ?_
  refine g_put C0 G k13 rfl hiX4 tyX4 tyX4_ok nmX4 3 (by decide) mf_X4_22 rfl rfl rfl rfl (Nat.le_of_ble_eq_true rfl) dX4_init_24 (fun H locs f14 hf14 G => ?_)
  have k15 : f14 th = some (.inr (6, [.ref q3, .int 0, .int 0, .int 0])) := hus hf14
  have k16 : f14 q3 = some (.inl (cy 2, 20, .inr (.inr (.inl (fun _ => 0))))) := hup hf14 (by omega) (hup hf12 (by omega) (hup hf10 (by omega) (hup hf8 (by omega) k6)))
  exact g_vret C0 G hr dX4_init_27 (Nat.le_of_ble_eq_true rfl) (Nat.le_of_ble_eq_true rfl) (by exact ⟨q3, (by omega), k16, k15, (fun a9 e9 h7 h8 => by have h6 := (Gz.1 _ _ h8).1.lt; rw [hsz] at h6; exact hup hf14 h7 (hup hf12 h7 (hup hf10 h7 (hup hf8 h7 (hup hf4 (Nat.ne_of_lt (Nat.lt_of_lt_of_le h6 (by omega))) (h8))))))⟩)
set_option maxRecDepth 100000 in
theorem k_X0_init {l : Launch} (hfl : l.stackTraces = false) {D : va_G} {cy : Nat → ClassId} {f : Hf} {sz : Nat} {th : Nat}  (h_t : f th = some (.inr (2, [.null, .null, .null, .null, .null, .null, .int 0, .int 0, .int 0, .int 0, .int 0]))) : hMet l yX0_init cX0_init 1 none { frames := 2, cells := 12, slots := 4332, locals := 36 } D (hTy cy) f sz [.ref th] (hQv (fun u => ∃ t1 t2 t3 t4 t5 t6 t7 t8 t9 t10 t11 t12, sz ≤ t1 ∧ t1 < t2 ∧ t2 < t3 ∧ t3 < t4 ∧ t4 < t5 ∧ t5 < t6 ∧ t6 < t7 ∧ t7 < t8 ∧ t8 < t9 ∧ t9 < t10 ∧ t10 < t11 ∧ t11 < t12 ∧ u t1 = some (.inr (8, [.int 8, .ref t2, .int 0])) ∧ u t2 = some (.inl (cy 0, 8, .inl (fun _ => 0))) ∧ u t3 = some (.inr (8, [.int 6, .ref t4, .int 0])) ∧ u t4 = some (.inl (cy 0, 66, .inl (fun _ => 0))) ∧ u t5 = some (.inr (8, [.int 7, .ref t6, .int 0])) ∧ u t6 = some (.inl (cy 0, 77, .inl (fun _ => 0))) ∧ u t7 = some (.inr (8, [.int 8, .ref t8, .int 0])) ∧ u t8 = some (.inl (cy 0, 4104, .inl (fun _ => 0))) ∧ u t9 = some (.inr (8, [.int 3, .ref t10, .int 0])) ∧ u t10 = some (.inl (cy 0, 33, .inl (fun _ => 0))) ∧ u t11 = some (.inr (5, [.ref t12, .int 0, .int 0, .int 0, .int (-1), .int (-1), .int 0, .int 0, .int 0])) ∧ u t12 = some (.inl (cy 0, 20, .inl (fun _ => 0))) ∧ u th = some (.inr (2, [.ref t1, .ref t3, .ref t5, .ref t7, .ref t9, .ref t11, .int 0, .int 0, .int 1, .int (-1), .int 0])) ∧ hFr f u th) D f sz) hNo := by
  refine h_enter (by decide) hfl (Nat.le_of_ble_eq_true rfl) ?_
  intro p9 e9 s9 m9 b9 t9 c9 hsz C0 hr hnm G ls hl
  have hx := C0.1.1
  have hb := C0.1.2.1
  have Gz := G
  have hin : t9.name = "<init>" := hnm
  have hl : lv_has ls 1 [(0, .ref th)] := hl
  refine lv_aload_n hx hb dX0_init_0 rfl (lv_at hl 0 rfl) ?_
  refine W.objInit hx hb C0.1.2.2.2.1 (C0.2.2.2.1.1 _ mm_X0_3 rfl _) (C0.2.2.2.1.1 _ mi_java_lang_Object__init____V rfl _) (C0.2.2.2.1.1 _ mc_objinit rfl _) rfl (by rw [C0.1.2.2.1]; exact hl.1) rfl dX0_init_1 (Nat.le_of_ble_eq_true rfl) (Nat.le_of_ble_eq_true rfl) ?_
  refine W.eq (g2 := F0 m9 4 ls []) rfl ?_
  refine lv_aload_n hx hb dX0_init_4 rfl (lv_at hl 0 rfl) ?_
  have zq1 := G.2.1
  have z3 : th < _ := (G.1 _ _ h_t).1.lt
  refine g_new C0 G (ci := 8) (fs := [.int 0, .null, .int 0]) rfl hiX6 tyX6 tyX6_ok mk_X0_9 mn_X6 mz_X6 (fun j hj => by rcases (show j = 0 ∨ j = 1 ∨ j = 2 by omega) with rfl | rfl | rfl <;> rfl) (Nat.le_of_ble_eq_true rfl) (Nat.le_of_ble_eq_true rfl) dX0_init_5 (fun q1 H f2 nq1 hf2 G hzq1 => ?_)
  have k4 : f2 q1 = some (.inr (8, [.int 0, .null, .int 0])) := hus hf2
  refine lv_dup hx hb dX0_init_8 rfl ?_
  refine lv_iconst (v := 1) hx hb dX0_init_9 (by decide) ?_
  refine lv_bipush (v := 8) hx hb dX0_init_10 (by decide) ?_
  have z5 : q1 < _ := (G.1 _ _ k4).1.lt
  refine g_cV C0 G (g_runI C0 G (rest := [.ref q1, .ref th]) (k_X6_init_1_8 hfl  k4) hY_X6_init mm_X0_13 mi_X6_init rfl ⟨(Nat.le_of_ble_eq_true rfl), (Nat.le_of_ble_eq_true rfl)⟩ rfl hl.1 rfl (Nat.le_of_ble_eq_true rfl) dX0_init_12 ⟨(Nat.le_of_ble_eq_true rfl), (Nat.le_of_ble_eq_true rfl)⟩) (kx_no rfl) (fun u7 H locs hp6 G => ?_)
  obtain ⟨q8, o9, k10, k11, fr12⟩ := hp6
  have k13 : u7 th = some (.inr (2, [.null, .null, .null, .null, .null, .null, .int 0, .int 0, .int 0, .int 0, .int 0])) := fr12 _ _ (by omega) (hup hf2 (by omega) h_t)
  refine g_putF C0 G hin k13 rfl hiX0 tyX0 tyX0_ok nmX0 0 (by decide) mf_X0_16 rfl rfl rfl rfl rfl (Nat.le_of_ble_eq_true rfl) dX0_init_15 (fun H locs f14 hf14 G => ?_)
  have k15 : f14 th = some (.inr (2, [.ref q1, .null, .null, .null, .null, .null, .int 0, .int 0, .int 0, .int 0, .int 0])) := hus hf14
  refine lv_aload_n hx hb dX0_init_18 rfl (lv_at hl 0 rfl) ?_
  have zq16 := G.2.1
  have k18 : f14 q8 = some (.inl (cy 0, 8, .inl (fun _ => 0))) := hup hf14 (by omega) k10
  have z19 : q8 < _ := (G.1 _ _ k18).1.lt
  refine g_new C0 G (ci := 8) (fs := [.int 0, .null, .int 0]) rfl hiX6 tyX6 tyX6_ok mk_X0_9 mn_X6 mz_X6 (fun j hj => by rcases (show j = 0 ∨ j = 1 ∨ j = 2 by omega) with rfl | rfl | rfl <;> rfl) (Nat.le_of_ble_eq_true rfl) (Nat.le_of_ble_eq_true rfl) dX0_init_19 (fun q16 H f17 nq16 hf17 G hzq16 => ?_)
  have k20 : f17 q16 = some (.inr (8, [.int 0, .null, .int 0])) := hus hf17
  refine lv_dup hx hb dX0_init_22 rfl ?_
  refine lv_bipush (v := 11) hx hb dX0_init_23 (by decide) ?_
  refine lv_bipush (v := 6) hx hb dX0_init_25 (by decide) ?_
  have z21 : q16 < _ := (G.1 _ _ k20).1.lt
  refine g_cV C0 G (g_runI C0 G (rest := [.ref q16, .ref th]) (k_X6_init_11_6 hfl  k20) hY_X6_init mm_X0_13 mi_X6_init rfl ⟨(Nat.le_of_ble_eq_true rfl), (Nat.le_of_ble_eq_true rfl)⟩ rfl hl.1 rfl (Nat.le_of_ble_eq_true rfl) dX0_init_27 ⟨(Nat.le_of_ble_eq_true rfl), (Nat.le_of_ble_eq_true rfl)⟩) (kx_no rfl) (fun u23 H locs hp22 G => ?_)
  obtain ⟨q24, o25, k26, k27, fr28⟩ := hp22
  have k29 : u23 th = some (.inr (2, [.ref q1, .null, .null, .null, .null, .null, .int 0, .int 0, .int 0, .int 0, .int 0])) := fr28 _ _ (by omega) (hup hf17 (by omega) k15)
  refine g_putF C0 G hin k29 rfl hiX0 tyX0 tyX0_ok nmX0 1 (by decide) mf_X0_20 rfl rfl rfl rfl rfl (Nat.le_of_ble_eq_true rfl) dX0_init_30 (fun H locs f30 hf30 G => ?_)
  have k31 : f30 th = some (.inr (2, [.ref q1, .ref q16, .null, .null, .null, .null, .int 0, .int 0, .int 0, .int 0, .int 0])) := hus hf30
  refine lv_aload_n hx hb dX0_init_33 rfl (lv_at hl 0 rfl) ?_
  have zq32 := G.2.1
  have k34 : f30 q24 = some (.inl (cy 0, 66, .inl (fun _ => 0))) := hup hf30 (by omega) k26
  have z35 : q24 < _ := (G.1 _ _ k34).1.lt
  refine g_new C0 G (ci := 8) (fs := [.int 0, .null, .int 0]) rfl hiX6 tyX6 tyX6_ok mk_X0_9 mn_X6 mz_X6 (fun j hj => by rcases (show j = 0 ∨ j = 1 ∨ j = 2 by omega) with rfl | rfl | rfl <;> rfl) (Nat.le_of_ble_eq_true rfl) (Nat.le_of_ble_eq_true rfl) dX0_init_34 (fun q32 H f33 nq32 hf33 G hzq32 => ?_)
  have k36 : f33 q32 = some (.inr (8, [.int 0, .null, .int 0])) := hus hf33
  refine lv_dup hx hb dX0_init_37 rfl ?_
  refine lv_bipush (v := 11) hx hb dX0_init_38 (by decide) ?_
  refine lv_bipush (v := 7) hx hb dX0_init_40 (by decide) ?_
  have z37 : q32 < _ := (G.1 _ _ k36).1.lt
  refine g_cV C0 G (g_runI C0 G (rest := [.ref q32, .ref th]) (k_X6_init_11_7 hfl  k36) hY_X6_init mm_X0_13 mi_X6_init rfl ⟨(Nat.le_of_ble_eq_true rfl), (Nat.le_of_ble_eq_true rfl)⟩ rfl hl.1 rfl (Nat.le_of_ble_eq_true rfl) dX0_init_42 ⟨(Nat.le_of_ble_eq_true rfl), (Nat.le_of_ble_eq_true rfl)⟩) (kx_no rfl) (fun u39 H locs hp38 G => ?_)
  obtain ⟨q40, o41, k42, k43, fr44⟩ := hp38
  have k45 : u39 th = some (.inr (2, [.ref q1, .ref q16, .null, .null, .null, .null, .int 0, .int 0, .int 0, .int 0, .int 0])) := fr44 _ _ (by omega) (hup hf33 (by omega) k31)
  refine g_putF C0 G hin k45 rfl hiX0 tyX0 tyX0_ok nmX0 2 (by decide) mf_X0_23 rfl rfl rfl rfl rfl (Nat.le_of_ble_eq_true rfl) dX0_init_45 (fun H locs f46 hf46 G => ?_)
  have k47 : f46 th = some (.inr (2, [.ref q1, .ref q16, .ref q32, .null, .null, .null, .int 0, .int 0, .int 0, .int 0, .int 0])) := hus hf46
  refine lv_aload_n hx hb dX0_init_48 rfl (lv_at hl 0 rfl) ?_
  have zq48 := G.2.1
  have k50 : f46 q40 = some (.inl (cy 0, 77, .inl (fun _ => 0))) := hup hf46 (by omega) k42
  have z51 : q40 < _ := (G.1 _ _ k50).1.lt
  refine g_new C0 G (ci := 8) (fs := [.int 0, .null, .int 0]) rfl hiX6 tyX6 tyX6_ok mk_X0_9 mn_X6 mz_X6 (fun j hj => by rcases (show j = 0 ∨ j = 1 ∨ j = 2 by omega) with rfl | rfl | rfl <;> rfl) (Nat.le_of_ble_eq_true rfl) (Nat.le_of_ble_eq_true rfl) dX0_init_49 (fun q48 H f49 nq48 hf49 G hzq48 => ?_)
  have k52 : f49 q48 = some (.inr (8, [.int 0, .null, .int 0])) := hus hf49
  refine lv_dup hx hb dX0_init_52 rfl ?_
  refine lv_sipush (v := 513) hx hb dX0_init_53 (by decide) ?_
  refine lv_bipush (v := 8) hx hb dX0_init_56 (by decide) ?_
  have z53 : q48 < _ := (G.1 _ _ k52).1.lt
  refine g_cV C0 G (g_runI C0 G (rest := [.ref q48, .ref th]) (k_X6_init_513_8 hfl  k52) hY_X6_init mm_X0_13 mi_X6_init rfl ⟨(Nat.le_of_ble_eq_true rfl), (Nat.le_of_ble_eq_true rfl)⟩ rfl hl.1 rfl (Nat.le_of_ble_eq_true rfl) dX0_init_58 ⟨(Nat.le_of_ble_eq_true rfl), (Nat.le_of_ble_eq_true rfl)⟩) (kx_no rfl) (fun u55 H locs hp54 G => ?_)
  obtain ⟨q56, o57, k58, k59, fr60⟩ := hp54
  have k61 : u55 th = some (.inr (2, [.ref q1, .ref q16, .ref q32, .null, .null, .null, .int 0, .int 0, .int 0, .int 0, .int 0])) := fr60 _ _ (by omega) (hup hf49 (by omega) k47)
  refine g_putF C0 G hin k61 rfl hiX0 tyX0 tyX0_ok nmX0 3 (by decide) mf_X0_26 rfl rfl rfl rfl rfl (Nat.le_of_ble_eq_true rfl) dX0_init_61 (fun H locs f62 hf62 G => ?_)
  have k63 : f62 th = some (.inr (2, [.ref q1, .ref q16, .ref q32, .ref q48, .null, .null, .int 0, .int 0, .int 0, .int 0, .int 0])) := hus hf62
  refine lv_aload_n hx hb dX0_init_64 rfl (lv_at hl 0 rfl) ?_
  have zq64 := G.2.1
  have k66 : f62 q56 = some (.inl (cy 0, 4104, .inl (fun _ => 0))) := hup hf62 (by omega) k58
  have z67 : q56 < _ := (G.1 _ _ k66).1.lt
  refine g_new C0 G (ci := 8) (fs := [.int 0, .null, .int 0]) rfl hiX6 tyX6 tyX6_ok mk_X0_9 mn_X6 mz_X6 (fun j hj => by rcases (show j = 0 ∨ j = 1 ∨ j = 2 by omega) with rfl | rfl | rfl <;> rfl) (Nat.le_of_ble_eq_true rfl) (Nat.le_of_ble_eq_true rfl) dX0_init_65 (fun q64 H f65 nq64 hf65 G hzq64 => ?_)
  have k68 : f65 q64 = some (.inr (8, [.int 0, .null, .int 0])) := hus hf65
  refine lv_dup hx hb dX0_init_68 rfl ?_
  refine lv_bipush (v := 11) hx hb dX0_init_69 (by decide) ?_
  refine lv_iconst (v := 3) hx hb dX0_init_71 (by decide) ?_
  have z69 : q64 < _ := (G.1 _ _ k68).1.lt
  refine g_cV C0 G (g_runI C0 G (rest := [.ref q64, .ref th]) (k_X6_init_11_3 hfl  k68) hY_X6_init mm_X0_13 mi_X6_init rfl ⟨(Nat.le_of_ble_eq_true rfl), (Nat.le_of_ble_eq_true rfl)⟩ rfl hl.1 rfl (Nat.le_of_ble_eq_true rfl) dX0_init_72 ⟨(Nat.le_of_ble_eq_true rfl), (Nat.le_of_ble_eq_true rfl)⟩) (kx_no rfl) (fun u71 H locs hp70 G => ?_)
  obtain ⟨q72, o73, k74, k75, fr76⟩ := hp70
  have k77 : u71 th = some (.inr (2, [.ref q1, .ref q16, .ref q32, .ref q48, .null, .null, .int 0, .int 0, .int 0, .int 0, .int 0])) := fr76 _ _ (by omega) (hup hf65 (by omega) k63)
  refine g_putF C0 G hin k77 rfl hiX0 tyX0 tyX0_ok nmX0 4 (by decide) mf_X0_29 rfl rfl rfl rfl rfl (Nat.le_of_ble_eq_true rfl) dX0_init_75 (fun H locs f78 hf78 G => ?_)
  have k79 : f78 th = some (.inr (2, [.ref q1, .ref q16, .ref q32, .ref q48, .ref q64, .null, .int 0, .int 0, .int 0, .int 0, .int 0])) := hus hf78
  refine lv_aload_n hx hb dX0_init_78 rfl (lv_at hl 0 rfl) ?_
  have zq80 := G.2.1
  have k82 : f78 q72 = some (.inl (cy 0, 33, .inl (fun _ => 0))) := hup hf78 (by omega) k74
  have z83 : q72 < _ := (G.1 _ _ k82).1.lt
  refine g_new C0 G (ci := 5) (fs := [.null, .int 0, .int 0, .int 0, .int 0, .int 0, .int 0, .int 0, .int 0]) rfl hiX3 tyX3 tyX3_ok mk_X0_32 mn_X3 mz_X3 (fun j hj => by rcases (show j = 0 ∨ j = 1 ∨ j = 2 ∨ j = 3 ∨ j = 4 ∨ j = 5 ∨ j = 6 ∨ j = 7 ∨ j = 8 by omega) with rfl | rfl | rfl | rfl | rfl | rfl | rfl | rfl | rfl <;> rfl) (Nat.le_of_ble_eq_true rfl) (Nat.le_of_ble_eq_true rfl) dX0_init_79 (fun q80 H f81 nq80 hf81 G hzq80 => ?_)
  have k84 : f81 q80 = some (.inr (5, [.null, .int 0, .int 0, .int 0, .int 0, .int 0, .int 0, .int 0, .int 0])) := hus hf81
  refine lv_dup hx hb dX0_init_82 rfl ?_
  have z85 : q80 < _ := (G.1 _ _ k84).1.lt
  refine g_cV C0 G (g_runIN C0 G (rest := [.ref q80, .ref th]) (k_X3_init hfl  k84) hY_X3_init mq_X0_34 mi_X3_init rfl ⟨(Nat.le_of_ble_eq_true rfl), (Nat.le_of_ble_eq_true rfl)⟩ rfl hl.1 rfl (Nat.le_of_ble_eq_true rfl) dX0_init_83 ⟨(Nat.le_of_ble_eq_true rfl), (Nat.le_of_ble_eq_true rfl)⟩) (kx_no rfl) (fun u87 H locs hp86 G => ?_)
  obtain ⟨q88, o89, k90, k91, fr92⟩ := hp86
  have k93 : u87 th = some (.inr (2, [.ref q1, .ref q16, .ref q32, .ref q48, .ref q64, .null, .int 0, .int 0, .int 0, .int 0, .int 0])) := fr92 _ _ (by omega) (hup hf81 (by omega) k79)
  refine g_putF C0 G hin k93 rfl hiX0 tyX0 tyX0_ok nmX0 5 (by decide) mf_X0_35 rfl rfl rfl rfl rfl (Nat.le_of_ble_eq_true rfl) dX0_init_86 (fun H locs f94 hf94 G => ?_)
  have k95 : f94 th = some (.inr (2, [.ref q1, .ref q16, .ref q32, .ref q48, .ref q64, .ref q80, .int 0, .int 0, .int 0, .int 0, .int 0])) := hus hf94
  refine lv_aload_n hx hb dX0_init_89 rfl (lv_at hl 0 rfl) ?_
  refine lv_iconst (v := 0) hx hb dX0_init_90 (by decide) ?_
  refine g_put C0 G k95 rfl hiX0 tyX0 tyX0_ok nmX0 6 (by decide) mf_X0_39 rfl rfl rfl rfl (Nat.le_of_ble_eq_true rfl) dX0_init_91 (fun H locs f96 hf96 G => ?_)
  have k97 : f96 th = some (.inr (2, [.ref q1, .ref q16, .ref q32, .ref q48, .ref q64, .ref q80, .int 0, .int 0, .int 0, .int 0, .int 0])) := hus hf96
  refine lv_aload_n hx hb dX0_init_94 rfl (lv_at hl 0 rfl) ?_
  refine lv_iconst (v := 0) hx hb dX0_init_95 (by decide) ?_
  refine g_put C0 G k97 rfl hiX0 tyX0 tyX0_ok nmX0 7 (by decide) mf_X0_43 rfl rfl rfl rfl (Nat.le_of_ble_eq_true rfl) dX0_init_96 (fun H locs f98 hf98 G => ?_)
  have k99 : f98 th = some (.inr (2, [.ref q1, .ref q16, .ref q32, .ref q48, .ref q64, .ref q80, .int 0, .int 0, .int 0, .int 0, .int 0])) := hus hf98
  refine lv_aload_n hx hb dX0_init_99 rfl (lv_at hl 0 rfl) ?_
  refine lv_iconst (v := 1) hx hb dX0_init_100 (by decide) ?_
  refine g_put C0 G k99 rfl hiX0 tyX0 tyX0_ok nmX0 8 (by decide) mf_X0_46 rfl rfl rfl rfl (Nat.le_of_ble_eq_true rfl) dX0_init_101 (fun H locs f100 hf100 G => ?_)
  have k101 : f100 th = some (.inr (2, [.ref q1, .ref q16, .ref q32, .ref q48, .ref q64, .ref q80, .int 0, .int 0, .int 1, .int 0, .int 0])) := hus hf100
  refine lv_aload_n hx hb dX0_init_104 rfl (lv_at hl 0 rfl) ?_
  refine lv_iconst (v := (-1)) hx hb dX0_init_105 (by decide) ?_
  refine g_put C0 G k101 rfl hiX0 tyX0 tyX0_ok nmX0 9 (by decide) mf_X0_49 rfl rfl rfl rfl (Nat.le_of_ble_eq_true rfl) dX0_init_106 (fun H locs f102 hf102 G => ?_)
  have k103 : f102 th = some (.inr (2, [.ref q1, .ref q16, .ref q32, .ref q48, .ref q64, .ref q80, .int 0, .int 0, .int 1, .int (-1), .int 0])) := hus hf102
  refine lv_aload_n hx hb dX0_init_109 rfl (lv_at hl 0 rfl) ?_
  refine lv_iconst (v := 0) hx hb dX0_init_110 (by decide) ?_
  refine g_put C0 G k103 rfl hiX0 tyX0 tyX0_ok nmX0 10 (by decide) mf_X0_52 rfl rfl rfl rfl (Nat.le_of_ble_eq_true rfl) dX0_init_111 (fun H locs f104 hf104 G => ?_)
  have k105 : f104 th = some (.inr (2, [.ref q1, .ref q16, .ref q32, .ref q48, .ref q64, .ref q80, .int 0, .int 0, .int 1, .int (-1), .int 0])) := hus hf104
  have k106 : f104 q1 = some (.inr (8, [.int 8, .ref q8, .int 0])) := hup hf104 (by omega) (hup hf102 (by omega) (hup hf100 (by omega) (hup hf98 (by omega) (hup hf96 (by omega) (hup hf94 (by omega) (fr92 _ _ (by omega) (hup hf81 (by omega) (hup hf78 (by omega) (fr76 _ _ (by omega) (hup hf65 (by omega) (hup hf62 (by omega) (fr60 _ _ (by omega) (hup hf49 (by omega) (hup hf46 (by omega) (fr44 _ _ (by omega) (hup hf33 (by omega) (hup hf30 (by omega) (fr28 _ _ (by omega) (hup hf17 (by omega) (hup hf14 (by omega) k11))))))))))))))))))))
  have k107 : f104 q8 = some (.inl (cy 0, 8, .inl (fun _ => 0))) := hup hf104 (by omega) (hup hf102 (by omega) (hup hf100 (by omega) (hup hf98 (by omega) (hup hf96 (by omega) (hup hf94 (by omega) (fr92 _ _ (by omega) (hup hf81 (by omega) (hup hf78 (by omega) (fr76 _ _ (by omega) (hup hf65 (by omega) (hup hf62 (by omega) (fr60 _ _ (by omega) (hup hf49 (by omega) (hup hf46 (by omega) (fr44 _ _ (by omega) (hup hf33 (by omega) (hup hf30 (by omega) (fr28 _ _ (by omega) (hup hf17 (by omega) k18)))))))))))))))))))
  have k108 : f104 q16 = some (.inr (8, [.int 6, .ref q24, .int 0])) := hup hf104 (by omega) (hup hf102 (by omega) (hup hf100 (by omega) (hup hf98 (by omega) (hup hf96 (by omega) (hup hf94 (by omega) (fr92 _ _ (by omega) (hup hf81 (by omega) (hup hf78 (by omega) (fr76 _ _ (by omega) (hup hf65 (by omega) (hup hf62 (by omega) (fr60 _ _ (by omega) (hup hf49 (by omega) (hup hf46 (by omega) (fr44 _ _ (by omega) (hup hf33 (by omega) (hup hf30 (by omega) k27)))))))))))))))))
  have k109 : f104 q24 = some (.inl (cy 0, 66, .inl (fun _ => 0))) := hup hf104 (by omega) (hup hf102 (by omega) (hup hf100 (by omega) (hup hf98 (by omega) (hup hf96 (by omega) (hup hf94 (by omega) (fr92 _ _ (by omega) (hup hf81 (by omega) (hup hf78 (by omega) (fr76 _ _ (by omega) (hup hf65 (by omega) (hup hf62 (by omega) (fr60 _ _ (by omega) (hup hf49 (by omega) (hup hf46 (by omega) (fr44 _ _ (by omega) (hup hf33 (by omega) k34))))))))))))))))
  have k110 : f104 q32 = some (.inr (8, [.int 7, .ref q40, .int 0])) := hup hf104 (by omega) (hup hf102 (by omega) (hup hf100 (by omega) (hup hf98 (by omega) (hup hf96 (by omega) (hup hf94 (by omega) (fr92 _ _ (by omega) (hup hf81 (by omega) (hup hf78 (by omega) (fr76 _ _ (by omega) (hup hf65 (by omega) (hup hf62 (by omega) (fr60 _ _ (by omega) (hup hf49 (by omega) (hup hf46 (by omega) k43))))))))))))))
  have k111 : f104 q40 = some (.inl (cy 0, 77, .inl (fun _ => 0))) := hup hf104 (by omega) (hup hf102 (by omega) (hup hf100 (by omega) (hup hf98 (by omega) (hup hf96 (by omega) (hup hf94 (by omega) (fr92 _ _ (by omega) (hup hf81 (by omega) (hup hf78 (by omega) (fr76 _ _ (by omega) (hup hf65 (by omega) (hup hf62 (by omega) (fr60 _ _ (by omega) (hup hf49 (by omega) k50)))))))))))))
  have k112 : f104 q48 = some (.inr (8, [.int 8, .ref q56, .int 0])) := hup hf104 (by omega) (hup hf102 (by omega) (hup hf100 (by omega) (hup hf98 (by omega) (hup hf96 (by omega) (hup hf94 (by omega) (fr92 _ _ (by omega) (hup hf81 (by omega) (hup hf78 (by omega) (fr76 _ _ (by omega) (hup hf65 (by omega) (hup hf62 (by omega) k59)))))))))))
  have k113 : f104 q56 = some (.inl (cy 0, 4104, .inl (fun _ => 0))) := hup hf104 (by omega) (hup hf102 (by omega) (hup hf100 (by omega) (hup hf98 (by omega) (hup hf96 (by omega) (hup hf94 (by omega) (fr92 _ _ (by omega) (hup hf81 (by omega) (hup hf78 (by omega) (fr76 _ _ (by omega) (hup hf65 (by omega) k66))))))))))
  have k114 : f104 q64 = some (.inr (8, [.int 3, .ref q72, .int 0])) := hup hf104 (by omega) (hup hf102 (by omega) (hup hf100 (by omega) (hup hf98 (by omega) (hup hf96 (by omega) (hup hf94 (by omega) (fr92 _ _ (by omega) (hup hf81 (by omega) (hup hf78 (by omega) k75))))))))
  have k115 : f104 q72 = some (.inl (cy 0, 33, .inl (fun _ => 0))) := hup hf104 (by omega) (hup hf102 (by omega) (hup hf100 (by omega) (hup hf98 (by omega) (hup hf96 (by omega) (hup hf94 (by omega) (fr92 _ _ (by omega) (hup hf81 (by omega) k82)))))))
  have k116 : f104 q80 = some (.inr (5, [.ref q88, .int 0, .int 0, .int 0, .int (-1), .int (-1), .int 0, .int 0, .int 0])) := hup hf104 (by omega) (hup hf102 (by omega) (hup hf100 (by omega) (hup hf98 (by omega) (hup hf96 (by omega) (hup hf94 (by omega) k91)))))
  have k117 : f104 q88 = some (.inl (cy 0, 20, .inl (fun _ => 0))) := hup hf104 (by omega) (hup hf102 (by omega) (hup hf100 (by omega) (hup hf98 (by omega) (hup hf96 (by omega) (hup hf94 (by omega) k90)))))
  exact g_vret C0 G hr dX0_init_114 (Nat.le_of_ble_eq_true rfl) (Nat.le_of_ble_eq_true rfl) (by exact ⟨q1, q8, q16, q24, q32, q40, q48, q56, q64, q72, q80, q88, (by omega), (by omega), (by omega), (by omega), (by omega), (by omega), (by omega), (by omega), (by omega), (by omega), (by omega), (by omega), k106, k107, k108, k109, k110, k111, k112, k113, k114, k115, k116, k117, k105, (fun a9 e9 h7 h8 => by have h6 := (Gz.1 _ _ h8).1.lt; rw [hsz] at h6; exact hup hf104 h7 (hup hf102 h7 (hup hf100 h7 (hup hf98 h7 (hup hf96 h7 (hup hf94 h7 (fr92 _ _ (Nat.ne_of_lt (Nat.lt_of_lt_of_le h6 (by omega))) (hup hf81 (Nat.ne_of_lt (Nat.lt_of_lt_of_le h6 (by omega))) (hup hf78 h7 (fr76 _ _ (Nat.ne_of_lt (Nat.lt_of_lt_of_le h6 (by omega))) (hup hf65 (Nat.ne_of_lt (Nat.lt_of_lt_of_le h6 (by omega))) (hup hf62 h7 (fr60 _ _ (Nat.ne_of_lt (Nat.lt_of_lt_of_le h6 (by omega))) (hup hf49 (Nat.ne_of_lt (Nat.lt_of_lt_of_le h6 (by omega))) (hup hf46 h7 (fr44 _ _ (Nat.ne_of_lt (Nat.lt_of_lt_of_le h6 (by omega))) (hup hf33 (Nat.ne_of_lt (Nat.lt_of_lt_of_le h6 (by omega))) (hup hf30 h7 (fr28 _ _ (Nat.ne_of_lt (Nat.lt_of_lt_of_le h6 (by omega))) (hup hf17 (Nat.ne_of_lt (Nat.lt_of_lt_of_le h6 (by omega))) (hup hf14 h7 (fr12 _ _ (Nat.ne_of_lt (Nat.lt_of_lt_of_le h6 (by omega))) (hup hf2 (Nat.ne_of_lt (Nat.lt_of_lt_of_le h6 (by omega))) (h8))))))))))))))))))))))))⟩)
set_option maxRecDepth 100000 in
theorem k_X1_init {l : Launch} (hfl : l.stackTraces = false) {D : va_G} {cy : Nat → ClassId} {f : Hf} {sz : Nat} {th : Nat}  (h_t : f th = some (.inr (3, [.null, .null, .null, .int 0, .int 0, .int 0, .int 0, .int 0, .int 0]))) : hMet l yX1_init cX1_init 2 none { frames := 2, cells := 3, slots := 1033, locals := 33 } D (hTy cy) f sz [.ref th] (hQv (fun u => ∃ n1 n2 n3, sz ≤ n1 ∧ n1 < n2 ∧ n2 < n3 ∧ u n1 = some (.inr (7, [.int 0, .int 0, .int 0, .int 0, .int 0, .int 0, .int 0, .int 0, .int 0])) ∧ u n2 = some (.inl (cy 4, 512, .inr (.inr (.inr (.inr (sfl n1 512)))))) ∧ u n3 = some (.inl (cy 0, 512, .inl (fun _ => 0))) ∧ u th = some (.inr (3, [.ref n1, .ref n2, .ref n3, .int 0, .int 0, .int 0, .int 0, .int 0, .int 0])) ∧ hFr f u th) D f sz) hNo := by
  refine h_enter (by decide) hfl (Nat.le_of_ble_eq_true rfl) ?_
  intro p9 e9 s9 m9 b9 t9 c9 hsz C0 hr hnm G ls hl
  have hx := C0.1.1
  have hb := C0.1.2.1
  have Gz := G
  have hin : t9.name = "<init>" := hnm
  have hl : lv_has ls 2 [(0, .ref th)] := hl
  refine lv_aload_n hx hb dX1_init_0 rfl (lv_at hl 0 rfl) ?_
  refine W.objInit hx hb C0.1.2.2.2.1 (C0.2.2.2.1.1 _ mm_X1_3 rfl _) (C0.2.2.2.1.1 _ mi_java_lang_Object__init____V rfl _) (C0.2.2.2.1.1 _ mc_objinit rfl _) rfl (by rw [C0.1.2.2.1]; exact hl.1) rfl dX1_init_1 (Nat.le_of_ble_eq_true rfl) (Nat.le_of_ble_eq_true rfl) ?_
  refine W.eq (g2 := F0 m9 4 ls []) rfl ?_
  refine lv_aload_n hx hb dX1_init_4 rfl (lv_at hl 0 rfl) ?_
  have zq1 := G.2.1
  have z3 : th < _ := (G.1 _ _ h_t).1.lt
  refine g_new C0 G (ci := 7) (fs := [.int 0, .int 0, .int 0, .int 0, .int 0, .int 0, .int 0, .int 0, .int 0]) rfl hiX5 tyX5 tyX5_ok mk_X1_9 mn_X5 mz_X5 (fun j hj => by rcases (show j = 0 ∨ j = 1 ∨ j = 2 ∨ j = 3 ∨ j = 4 ∨ j = 5 ∨ j = 6 ∨ j = 7 ∨ j = 8 by omega) with rfl | rfl | rfl | rfl | rfl | rfl | rfl | rfl | rfl <;> rfl) (Nat.le_of_ble_eq_true rfl) (Nat.le_of_ble_eq_true rfl) dX1_init_5 (fun q1 H f2 nq1 hf2 G hzq1 => ?_)
  have k4 : f2 q1 = some (.inr (7, [.int 0, .int 0, .int 0, .int 0, .int 0, .int 0, .int 0, .int 0, .int 0])) := hus hf2
  refine lv_dup hx hb dX1_init_8 rfl ?_
  refine lv_iconst (v := 0) hx hb dX1_init_9 (by decide) ?_
  have z5 : q1 < _ := (G.1 _ _ k4).1.lt
  refine g_cV C0 G (g_runI C0 G (rest := [.ref q1, .ref th]) (k_X5_init hfl 0 k4) hY_X5_init mm_X1_11 mi_X5_init rfl ⟨(Nat.le_of_ble_eq_true rfl), (Nat.le_of_ble_eq_true rfl)⟩ rfl hl.1 rfl (Nat.le_of_ble_eq_true rfl) dX1_init_10 ⟨(Nat.le_of_ble_eq_true rfl), (Nat.le_of_ble_eq_true rfl)⟩) (kx_no rfl) (fun u7 H locs hp6 G => ?_)
  obtain ⟨k8, fr9⟩ := hp6
  have k10 : u7 th = some (.inr (3, [.null, .null, .null, .int 0, .int 0, .int 0, .int 0, .int 0, .int 0])) := fr9 _ _ (by omega) (hup hf2 (by omega) h_t)
  refine g_putF C0 G hin k10 rfl hiX1 tyX1 tyX1_ok nmX1 0 (by decide) mf_X1_14 rfl rfl rfl rfl rfl (Nat.le_of_ble_eq_true rfl) dX1_init_13 (fun H locs f11 hf11 G => ?_)
  have k12 : f11 th = some (.inr (3, [.ref q1, .null, .null, .int 0, .int 0, .int 0, .int 0, .int 0, .int 0])) := hus hf11
  refine lv_aload_n hx hb dX1_init_16 rfl (lv_at hl 0 rfl) ?_
  refine lv_sipush (v := 512) hx hb dX1_init_17 (by decide) ?_
  have zq13 := G.2.1
  have k15 : f11 q1 = some (.inr (7, [.int 0, .int 0, .int 0, .int 0, .int 0, .int 0, .int 0, .int 0, .int 0])) := hup hf11 (by omega) k8
  have z16 : q1 < _ := (G.1 _ _ k15).1.lt
  refine g_newq C0 G mk_X1_9 (C0.2.2.2.1.2.2.2.2) 4 rfl (n := 512) (N' := 512) (by decide) rfl (Nat.le_of_ble_eq_true rfl) (Nat.le_of_ble_eq_true rfl) (Nat.le_of_ble_eq_true rfl) dX1_init_20 (fun q13 H f14 nq13 hf14 G hzq13 => ?_)
  have k17 : f14 q13 = some (.inl (cy 4, 512, .inr (.inr (.inr (.inr (fun _ => none)))))) := hus hf14
  have k18 : f14 th = some (.inr (3, [.ref q1, .null, .null, .int 0, .int 0, .int 0, .int 0, .int 0, .int 0])) := hup hf14 (by omega) k12
  refine g_putF C0 G hin k18 rfl hiX1 tyX1 tyX1_ok nmX1 1 (by decide) mf_X1_20 rfl rfl rfl rfl rfl (Nat.le_of_ble_eq_true rfl) dX1_init_23 (fun H locs f19 hf19 G => ?_)
  have k20 : f19 th = some (.inr (3, [.ref q1, .ref q13, .null, .int 0, .int 0, .int 0, .int 0, .int 0, .int 0])) := hus hf19
  refine lv_aload_n hx hb dX1_init_26 rfl (lv_at hl 0 rfl) ?_
  refine lv_sipush (v := 512) hx hb dX1_init_27 (by decide) ?_
  have zq23 := G.2.1
  have k25 : f19 q13 = some (.inl (cy 4, 512, .inr (.inr (.inr (.inr (fun _ => none)))))) := hup hf19 (by omega) k17
  have z26 : q13 < _ := (G.1 _ _ k25).1.lt
  refine g_newa (atype := .int) (ty := .int) C0 G ma_int rfl 0 rfl (n := 512) (N' := 512) (a0 := (512, .inl (fun _ => 0))) (fun cA => rfl) (by decide) rfl (Nat.le_of_ble_eq_true rfl) (Nat.le_of_ble_eq_true rfl) (Nat.le_of_ble_eq_true rfl) dX1_init_30 (fun q23 H f24 nq23 hf24 G hzq23 => ?_)
  have k27 : f24 q23 = some (.inl (cy 0, 512, .inl (fun _ => 0))) := hus hf24
  have k28 : f24 th = some (.inr (3, [.ref q1, .ref q13, .null, .int 0, .int 0, .int 0, .int 0, .int 0, .int 0])) := hup hf24 (by omega) k20
  refine g_putF C0 G hin k28 rfl hiX1 tyX1 tyX1_ok nmX1 2 (by decide) mf_X1_24 rfl rfl rfl rfl rfl (Nat.le_of_ble_eq_true rfl) dX1_init_32 (fun H locs f29 hf29 G => ?_)
  have k30 : f29 th = some (.inr (3, [.ref q1, .ref q13, .ref q23, .int 0, .int 0, .int 0, .int 0, .int 0, .int 0])) := hus hf29
  refine lv_aload_n hx hb dX1_init_35 rfl (lv_at hl 0 rfl) ?_
  refine lv_iconst (v := 0) hx hb dX1_init_36 (by decide) ?_
  refine g_put C0 G k30 rfl hiX1 tyX1 tyX1_ok nmX1 3 (by decide) mf_X1_28 rfl rfl rfl rfl (Nat.le_of_ble_eq_true rfl) dX1_init_37 (fun H locs f31 hf31 G => ?_)
  have k32 : f31 th = some (.inr (3, [.ref q1, .ref q13, .ref q23, .int 0, .int 0, .int 0, .int 0, .int 0, .int 0])) := hus hf31
  refine lv_aload_n hx hb dX1_init_40 rfl (lv_at hl 0 rfl) ?_
  refine lv_iconst (v := 0) hx hb dX1_init_41 (by decide) ?_
  refine g_put C0 G k32 rfl hiX1 tyX1 tyX1_ok nmX1 4 (by decide) mf_X1_32 rfl rfl rfl rfl (Nat.le_of_ble_eq_true rfl) dX1_init_42 (fun H locs f33 hf33 G => ?_)
  have k34 : f33 th = some (.inr (3, [.ref q1, .ref q13, .ref q23, .int 0, .int 0, .int 0, .int 0, .int 0, .int 0])) := hus hf33
  refine lv_aload_n hx hb dX1_init_45 rfl (lv_at hl 0 rfl) ?_
  refine lv_iconst (v := 0) hx hb dX1_init_46 (by decide) ?_
  refine g_put C0 G k34 rfl hiX1 tyX1 tyX1_ok nmX1 5 (by decide) mf_X1_35 rfl rfl rfl rfl (Nat.le_of_ble_eq_true rfl) dX1_init_47 (fun H locs f35 hf35 G => ?_)
  have k36 : f35 th = some (.inr (3, [.ref q1, .ref q13, .ref q23, .int 0, .int 0, .int 0, .int 0, .int 0, .int 0])) := hus hf35
  refine lv_aload_n hx hb dX1_init_50 rfl (lv_at hl 0 rfl) ?_
  refine lv_iconst (v := 0) hx hb dX1_init_51 (by decide) ?_
  refine g_put C0 G k36 rfl hiX1 tyX1 tyX1_ok nmX1 6 (by decide) mf_X1_38 rfl rfl rfl rfl (Nat.le_of_ble_eq_true rfl) dX1_init_52 (fun H locs f37 hf37 G => ?_)
  have k38 : f37 th = some (.inr (3, [.ref q1, .ref q13, .ref q23, .int 0, .int 0, .int 0, .int 0, .int 0, .int 0])) := hus hf37
  refine lv_aload_n hx hb dX1_init_55 rfl (lv_at hl 0 rfl) ?_
  refine lv_iconst (v := 0) hx hb dX1_init_56 (by decide) ?_
  refine g_put C0 G k38 rfl hiX1 tyX1 tyX1_ok nmX1 7 (by decide) mf_X1_41 rfl rfl rfl rfl (Nat.le_of_ble_eq_true rfl) dX1_init_57 (fun H locs f39 hf39 G => ?_)
  have k40 : f39 th = some (.inr (3, [.ref q1, .ref q13, .ref q23, .int 0, .int 0, .int 0, .int 0, .int 0, .int 0])) := hus hf39
  refine lv_aload_n hx hb dX1_init_60 rfl (lv_at hl 0 rfl) ?_
  refine lv_iconst (v := 0) hx hb dX1_init_61 (by decide) ?_
  refine g_put C0 G k40 rfl hiX1 tyX1 tyX1_ok nmX1 8 (by decide) mf_X1_44 rfl rfl rfl rfl (Nat.le_of_ble_eq_true rfl) dX1_init_62 (fun H locs f41 hf41 G => ?_)
  have k42 : f41 th = some (.inr (3, [.ref q1, .ref q13, .ref q23, .int 0, .int 0, .int 0, .int 0, .int 0, .int 0])) := hus hf41
  refine lv_iconst (v := 0) hx hb dX1_init_65 (by decide) ?_
  refine lv_istore_n (lv' := [(1, .int 0), (0, .ref th)]) hx hb dX1_init_66 rfl hl (by decide) rfl (fun ls hl => ?_)
  have k43 : f41 q1 = some (.inr (7, [.int 0, .int 0, .int 0, .int 0, .int 0, .int 0, .int 0, .int 0, .int 0])) := hup hf41 (by omega) (hup hf39 (by omega) (hup hf37 (by omega) (hup hf35 (by omega) (hup hf33 (by omega) (hup hf31 (by omega) (hup hf29 (by omega) (hup hf24 (by omega) (hup hf19 (by omega) (hup hf14 (by omega) k15)))))))))
  have k44 : f41 q13 = some (.inl (cy 4, 512, .inr (.inr (.inr (.inr (fun _ => none)))))) := hup hf41 (by omega) (hup hf39 (by omega) (hup hf37 (by omega) (hup hf35 (by omega) (hup hf33 (by omega) (hup hf31 (by omega) (hup hf29 (by omega) (hup hf24 (by omega) k25)))))))
  have k45 : f41 q23 = some (.inl (cy 0, 512, .inl (fun _ => 0))) := hup hf41 (by omega) (hup hf39 (by omega) (hup hf37 (by omega) (hup hf35 (by omega) (hup hf33 (by omega) (hup hf31 (by omega) (hup hf29 (by omega) k27))))))
  refine W.widen (k := 3) (n := 1033) (Nat.le_of_ble_eq_true rfl) (Nat.le_of_ble_eq_true rfl) ?_
  have LOOP67 : ∀ (k : Nat) (i : Nat) (f1 : Hf) (H : Heap) (locs : List Loc) (ls : Array Slot), (i ≤ 512) → (512 - i < k) → (hFr f f1 th) → f1 th = some (.inr (3, [.ref q1, .ref q13, .ref q23, .int 0, .int 0, .int 0, .int 0, .int 0, .int 0])) → f1 q1 = some (.inr (7, [.int 0, .int 0, .int 0, .int 0, .int 0, .int 0, .int 0, .int 0, .int 0])) → f1 q13 = some (.inl (cy 4, 512, .inr (.inr (.inr (.inr (sfl q1 i)))))) → f1 q23 = some (.inl (cy 0, 512, .inl (fun _ => 0))) → hG D (hA f sz) f1 s9 H locs → lv_has ls 2 [(1, .int (nI i)), (0, .ref th)] → W p9 l e9 ({ frames := 2, cells := 3, slots := 1033, locals := 33 } : Room) s9 m9 ([.ref th] : List Value).toArray b9 t9 c9 H locs 3 1033 (vx_MQ b9 (hQv (fun u => ∃ n1 n2 n3, sz ≤ n1 ∧ n1 < n2 ∧ n2 < n3 ∧ u n1 = some (.inr (7, [.int 0, .int 0, .int 0, .int 0, .int 0, .int 0, .int 0, .int 0, .int 0])) ∧ u n2 = some (.inl (cy 4, 512, .inr (.inr (.inr (.inr (sfl n1 512)))))) ∧ u n3 = some (.inl (cy 0, 512, .inl (fun _ => 0))) ∧ u th = some (.inr (3, [.ref n1, .ref n2, .ref n3, .int 0, .int 0, .int 0, .int 0, .int 0, .int 0])) ∧ hFr f u th) D f sz) (hPx hNo D f sz) ([.ref th] : List Value).toArray s9 3 1033 (hA f sz)) (F0 m9 67 ls []) := by
    intro k
    induction k with
    | zero =>
      intro i f1 H locs ls hi2 hk hfr9 g0_ g1_ g2_ g3_ G hl
      exact absurd hk (by omega)
    | succ k ih =>
      intro i f1 H locs ls hi2 hk hfr9 g0_ g1_ g2_ g3_ G hl
      refine lv_iload_n hx hb dX1_init_67 rfl (lv_at hl 0 rfl) ?_
      refine lv_aload_n hx hb dX1_init_68 rfl (lv_at hl 1 rfl) ?_
      refine g_get C0 G g0_ rfl hiX1 1 (by decide) mf_X1_20 rfl dX1_init_69 ?_
      refine g_alen C0 G g2_ 4 rfl (v := 512) rfl dX1_init_72 ?_
      refine lv_icmp_ge (tgt := 92) hx hb dX1_init_73 (by decide) (fun c46 => ?_) (fun c46 => ?_)
      · have n47 : 512 ≤ i := (nI_leI (a := 512) (b := i) (by omega) (by omega)).mp c46
        have hi9 : i = 512 := by omega
        subst hi9
        exact g_vret C0 G hr dX1_init_92 (Nat.le_of_ble_eq_true rfl) (Nat.le_of_ble_eq_true rfl) (by exact ⟨q1, q13, q23, (by omega), (by omega), (by omega), g1_, g2_, g3_, g0_, (fun a9 e9 h7 h8 => by have h6 := (Gz.1 _ _ h8).1.lt; rw [hsz] at h6; exact hfr9 _ _ h7 h8)⟩)
      · have n48 : ¬ 512 ≤ i := fun q => c46 ((nI_leI (a := 512) (b := i) (by omega) (by omega)).mpr q)
        refine lv_aload_n hx hb dX1_init_76 rfl (lv_at hl 1 rfl) ?_
        refine g_get C0 G g0_ rfl hiX1 1 (by decide) mf_X1_20 rfl dX1_init_77 ?_
        refine lv_iload_n hx hb dX1_init_80 rfl (lv_at hl 0 rfl) ?_
        refine lv_aload_n hx hb dX1_init_81 rfl (lv_at hl 1 rfl) ?_
        refine g_get C0 G g0_ rfl hiX1 0 (by decide) mf_X1_14 rfl dX1_init_82 ?_
        refine g_aast C0 G g2_ 4 rfl g1_ rfl (vp_in_nI (by omega) (by omega)) dX1_init_85 (fun H locs f49 hf49 G => ?_)
        have k50 : f49 q13 = some (.inl (cy 4, 512, .inr (.inr (.inr (.inr (va_up (sfl q1 i) (nI i).toNatClampNeg (some q1))))))) := hus hf49
        refine lv_iinc (v := nI (i + 1)) (lv' := [(1, .int (nI (i + 1))), (0, .ref th)]) hx hb dX1_init_86 hl (k := 0) rfl (by exact (nI_add _ _)) (by decide) rfl (fun ls hl => ?_)
        refine lv_goto (tgt := 67) hx hb dX1_init_89 (by decide) ?_
        have k52 : f49 th = some (.inr (3, [.ref q1, .ref q13, .ref q23, .int 0, .int 0, .int 0, .int 0, .int 0, .int 0])) := hup hf49 (by omega) g0_
        have k53 : f49 q1 = some (.inr (7, [.int 0, .int 0, .int 0, .int 0, .int 0, .int 0, .int 0, .int 0, .int 0])) := hup hf49 (by omega) g1_
        have k54 : f49 q23 = some (.inl (cy 0, 512, .inl (fun _ => 0))) := hup hf49 (by omega) g3_
        exact ih (i + 1) f49 _ _ _ (by omega) (by omega) ((fun a9 e9 h7 h8 => by have h6 := (Gz.1 _ _ h8).1.lt; rw [hsz] at h6; exact hup hf49 (Nat.ne_of_lt (Nat.lt_of_lt_of_le h6 (by omega))) (hfr9 _ _ h7 h8))) k52 k53 (by have h5 := k50; rw [nI_c (by omega), sfl_s] at h5; exact h5) k54 G (lv_sub hl [0, 1] rfl)
  exact LOOP67 513 0 f41 _ _ _ (by omega) (by omega) ((fun a9 e9 h7 h8 => by have h6 := (Gz.1 _ _ h8).1.lt; rw [hsz] at h6; exact hup hf41 h7 (hup hf39 h7 (hup hf37 h7 (hup hf35 h7 (hup hf33 h7 (hup hf31 h7 (hup hf29 h7 (hup hf24 (Nat.ne_of_lt (Nat.lt_of_lt_of_le h6 (by omega))) (hup hf19 h7 (hup hf14 (Nat.ne_of_lt (Nat.lt_of_lt_of_le h6 (by omega))) (hup hf11 h7 (fr9 _ _ (Nat.ne_of_lt (Nat.lt_of_lt_of_le h6 (by omega))) (hup hf2 (Nat.ne_of_lt (Nat.lt_of_lt_of_le h6 (by omega))) (h8))))))))))))))) k42 k43 (by rw [sfl_0]; exact k44) k45 G (lv_sub hl [0, 1] rfl)
set_option maxRecDepth 100000 in
theorem k_X7_init {l : Launch} (hfl : l.stackTraces = false) {D : va_G} {cy : Nat → ClassId} {f : Hf} {sz : Nat} {th : Nat}  (h_t : f th = some (.inr (9, [.null, .null, .null, .int 0, .int 0]))) : hMet l yX7_init cX7_init 2 none { frames := 2, cells := 3, slots := 129, locals := 33 } D (hTy cy) f sz [.ref th] (hQv (fun u => ∃ n1 n2 n3, sz ≤ n1 ∧ n1 < n2 ∧ n2 < n3 ∧ u n1 = some (.inl (cy 1, 60, .inl (fun _ => 0))) ∧ u n2 = some (.inr (7, [.int 0, .int 0, .int 0, .int 0, .int 0, .int 0, .int 0, .int 0, .int 0])) ∧ u n3 = some (.inl (cy 4, 60, .inr (.inr (.inr (.inr (sfl n2 60)))))) ∧ u th = some (.inr (9, [.ref n1, .ref n2, .ref n3, .int 0, .int 0])) ∧ hFr f u th) D f sz) hNo := by
  refine h_enter (by decide) hfl (Nat.le_of_ble_eq_true rfl) ?_
  intro p9 e9 s9 m9 b9 t9 c9 hsz C0 hr hnm G ls hl
  have hx := C0.1.1
  have hb := C0.1.2.1
  have Gz := G
  have hin : t9.name = "<init>" := hnm
  have hl : lv_has ls 2 [(0, .ref th)] := hl
  refine lv_aload_n hx hb dX7_init_0 rfl (lv_at hl 0 rfl) ?_
  refine W.objInit hx hb C0.1.2.2.2.1 (C0.2.2.2.1.1 _ mm_X7_3 rfl _) (C0.2.2.2.1.1 _ mi_java_lang_Object__init____V rfl _) (C0.2.2.2.1.1 _ mc_objinit rfl _) rfl (by rw [C0.1.2.2.1]; exact hl.1) rfl dX7_init_1 (Nat.le_of_ble_eq_true rfl) (Nat.le_of_ble_eq_true rfl) ?_
  refine W.eq (g2 := F0 m9 4 ls []) rfl ?_
  refine lv_aload_n hx hb dX7_init_4 rfl (lv_at hl 0 rfl) ?_
  refine lv_bipush (v := 60) hx hb dX7_init_5 (by decide) ?_
  have zq3 := G.2.1
  have z5 : th < _ := (G.1 _ _ h_t).1.lt
  refine g_newa (atype := .char) (ty := .char) C0 G ma_char rfl 1 rfl (n := 60) (N' := 60) (a0 := (60, .inl (fun _ => 0))) (fun cA => rfl) (by decide) rfl (Nat.le_of_ble_eq_true rfl) (Nat.le_of_ble_eq_true rfl) (Nat.le_of_ble_eq_true rfl) dX7_init_7 (fun q3 H f4 nq3 hf4 G hzq3 => ?_)
  have k6 : f4 q3 = some (.inl (cy 1, 60, .inl (fun _ => 0))) := hus hf4
  have k7 : f4 th = some (.inr (9, [.null, .null, .null, .int 0, .int 0])) := hup hf4 (by omega) h_t
  refine g_putF C0 G hin k7 rfl hiX7 tyX7 tyX7_ok nmX7 0 (by decide) mf_X7_9 rfl rfl rfl rfl rfl (Nat.le_of_ble_eq_true rfl) dX7_init_9 (fun H locs f8 hf8 G => ?_)
  have k9 : f8 th = some (.inr (9, [.ref q3, .null, .null, .int 0, .int 0])) := hus hf8
  refine lv_aload_n hx hb dX7_init_12 rfl (lv_at hl 0 rfl) ?_
  have zq10 := G.2.1
  have k12 : f8 q3 = some (.inl (cy 1, 60, .inl (fun _ => 0))) := hup hf8 (by omega) k6
  have z13 : q3 < _ := (G.1 _ _ k12).1.lt
  refine g_new C0 G (ci := 7) (fs := [.int 0, .int 0, .int 0, .int 0, .int 0, .int 0, .int 0, .int 0, .int 0]) rfl hiX5 tyX5 tyX5_ok mk_X7_15 mn_X5 mz_X5 (fun j hj => by rcases (show j = 0 ∨ j = 1 ∨ j = 2 ∨ j = 3 ∨ j = 4 ∨ j = 5 ∨ j = 6 ∨ j = 7 ∨ j = 8 by omega) with rfl | rfl | rfl | rfl | rfl | rfl | rfl | rfl | rfl <;> rfl) (Nat.le_of_ble_eq_true rfl) (Nat.le_of_ble_eq_true rfl) dX7_init_13 (fun q10 H f11 nq10 hf11 G hzq10 => ?_)
  have k14 : f11 q10 = some (.inr (7, [.int 0, .int 0, .int 0, .int 0, .int 0, .int 0, .int 0, .int 0, .int 0])) := hus hf11
  refine lv_dup hx hb dX7_init_16 rfl ?_
  refine lv_iconst (v := 0) hx hb dX7_init_17 (by decide) ?_
  have z15 : q10 < _ := (G.1 _ _ k14).1.lt
  refine g_cV C0 G (g_runI C0 G (rest := [.ref q10, .ref th]) (k_X5_init hfl 0 k14) hY_X5_init mm_X7_17 mi_X5_init rfl ⟨(Nat.le_of_ble_eq_true rfl), (Nat.le_of_ble_eq_true rfl)⟩ rfl hl.1 rfl (Nat.le_of_ble_eq_true rfl) dX7_init_18 ⟨(Nat.le_of_ble_eq_true rfl), (Nat.le_of_ble_eq_true rfl)⟩) (kx_no rfl) (fun u17 H locs hp16 G => ?_)
  obtain ⟨k18, fr19⟩ := hp16
  have k20 : u17 th = some (.inr (9, [.ref q3, .null, .null, .int 0, .int 0])) := fr19 _ _ (by omega) (hup hf11 (by omega) k9)
  refine g_putF C0 G hin k20 rfl hiX7 tyX7 tyX7_ok nmX7 1 (by decide) mf_X7_20 rfl rfl rfl rfl rfl (Nat.le_of_ble_eq_true rfl) dX7_init_21 (fun H locs f21 hf21 G => ?_)
  have k22 : f21 th = some (.inr (9, [.ref q3, .ref q10, .null, .int 0, .int 0])) := hus hf21
  refine lv_aload_n hx hb dX7_init_24 rfl (lv_at hl 0 rfl) ?_
  refine lv_bipush (v := 60) hx hb dX7_init_25 (by decide) ?_
  have zq23 := G.2.1
  have k25 : f21 q10 = some (.inr (7, [.int 0, .int 0, .int 0, .int 0, .int 0, .int 0, .int 0, .int 0, .int 0])) := hup hf21 (by omega) k18
  have z26 : q10 < _ := (G.1 _ _ k25).1.lt
  refine g_newq C0 G mk_X7_15 (C0.2.2.2.1.2.2.2.2) 4 rfl (n := 60) (N' := 60) (by decide) rfl (Nat.le_of_ble_eq_true rfl) (Nat.le_of_ble_eq_true rfl) (Nat.le_of_ble_eq_true rfl) dX7_init_27 (fun q23 H f24 nq23 hf24 G hzq23 => ?_)
  have k27 : f24 q23 = some (.inl (cy 4, 60, .inr (.inr (.inr (.inr (fun _ => none)))))) := hus hf24
  have k28 : f24 th = some (.inr (9, [.ref q3, .ref q10, .null, .int 0, .int 0])) := hup hf24 (by omega) k22
  refine g_putF C0 G hin k28 rfl hiX7 tyX7 tyX7_ok nmX7 2 (by decide) mf_X7_24 rfl rfl rfl rfl rfl (Nat.le_of_ble_eq_true rfl) dX7_init_30 (fun H locs f29 hf29 G => ?_)
  have k30 : f29 th = some (.inr (9, [.ref q3, .ref q10, .ref q23, .int 0, .int 0])) := hus hf29
  refine lv_aload_n hx hb dX7_init_33 rfl (lv_at hl 0 rfl) ?_
  refine lv_iconst (v := 0) hx hb dX7_init_34 (by decide) ?_
  refine g_put C0 G k30 rfl hiX7 tyX7 tyX7_ok nmX7 3 (by decide) mf_X7_28 rfl rfl rfl rfl (Nat.le_of_ble_eq_true rfl) dX7_init_35 (fun H locs f31 hf31 G => ?_)
  have k32 : f31 th = some (.inr (9, [.ref q3, .ref q10, .ref q23, .int 0, .int 0])) := hus hf31
  refine lv_aload_n hx hb dX7_init_38 rfl (lv_at hl 0 rfl) ?_
  refine lv_iconst (v := 0) hx hb dX7_init_39 (by decide) ?_
  refine g_put C0 G k32 rfl hiX7 tyX7 tyX7_ok nmX7 4 (by decide) mf_X7_32 rfl rfl rfl rfl (Nat.le_of_ble_eq_true rfl) dX7_init_40 (fun H locs f33 hf33 G => ?_)
  have k34 : f33 th = some (.inr (9, [.ref q3, .ref q10, .ref q23, .int 0, .int 0])) := hus hf33
  refine lv_iconst (v := 0) hx hb dX7_init_43 (by decide) ?_
  refine lv_istore_n (lv' := [(1, .int 0), (0, .ref th)]) hx hb dX7_init_44 rfl hl (by decide) rfl (fun ls hl => ?_)
  have k35 : f33 q3 = some (.inl (cy 1, 60, .inl (fun _ => 0))) := hup hf33 (by omega) (hup hf31 (by omega) (hup hf29 (by omega) (hup hf24 (by omega) (hup hf21 (by omega) (fr19 _ _ (by omega) (hup hf11 (by omega) k12))))))
  have k36 : f33 q10 = some (.inr (7, [.int 0, .int 0, .int 0, .int 0, .int 0, .int 0, .int 0, .int 0, .int 0])) := hup hf33 (by omega) (hup hf31 (by omega) (hup hf29 (by omega) (hup hf24 (by omega) k25)))
  have k37 : f33 q23 = some (.inl (cy 4, 60, .inr (.inr (.inr (.inr (fun _ => none)))))) := hup hf33 (by omega) (hup hf31 (by omega) (hup hf29 (by omega) k27))
  refine W.widen (k := 3) (n := 129) (Nat.le_of_ble_eq_true rfl) (Nat.le_of_ble_eq_true rfl) ?_
  have LOOP45 : ∀ (k : Nat) (i : Nat) (f1 : Hf) (H : Heap) (locs : List Loc) (ls : Array Slot), (i ≤ 60) → (60 - i < k) → (hFr f f1 th) → f1 th = some (.inr (9, [.ref q3, .ref q10, .ref q23, .int 0, .int 0])) → f1 q3 = some (.inl (cy 1, 60, .inl (fun _ => 0))) → f1 q10 = some (.inr (7, [.int 0, .int 0, .int 0, .int 0, .int 0, .int 0, .int 0, .int 0, .int 0])) → f1 q23 = some (.inl (cy 4, 60, .inr (.inr (.inr (.inr (sfl q10 i)))))) → hG D (hA f sz) f1 s9 H locs → lv_has ls 2 [(1, .int (nI i)), (0, .ref th)] → W p9 l e9 ({ frames := 2, cells := 3, slots := 129, locals := 33 } : Room) s9 m9 ([.ref th] : List Value).toArray b9 t9 c9 H locs 3 129 (vx_MQ b9 (hQv (fun u => ∃ n1 n2 n3, sz ≤ n1 ∧ n1 < n2 ∧ n2 < n3 ∧ u n1 = some (.inl (cy 1, 60, .inl (fun _ => 0))) ∧ u n2 = some (.inr (7, [.int 0, .int 0, .int 0, .int 0, .int 0, .int 0, .int 0, .int 0, .int 0])) ∧ u n3 = some (.inl (cy 4, 60, .inr (.inr (.inr (.inr (sfl n2 60)))))) ∧ u th = some (.inr (9, [.ref n1, .ref n2, .ref n3, .int 0, .int 0])) ∧ hFr f u th) D f sz) (hPx hNo D f sz) ([.ref th] : List Value).toArray s9 3 129 (hA f sz)) (F0 m9 45 ls []) := by
    intro k
    induction k with
    | zero =>
      intro i f1 H locs ls hi2 hk hfr9 g0_ g1_ g2_ g3_ G hl
      exact absurd hk (by omega)
    | succ k ih =>
      intro i f1 H locs ls hi2 hk hfr9 g0_ g1_ g2_ g3_ G hl
      refine lv_iload_n hx hb dX7_init_45 rfl (lv_at hl 0 rfl) ?_
      refine lv_aload_n hx hb dX7_init_46 rfl (lv_at hl 1 rfl) ?_
      refine g_get C0 G g0_ rfl hiX7 2 (by decide) mf_X7_24 rfl dX7_init_47 ?_
      refine g_alen C0 G g3_ 4 rfl (v := 60) rfl dX7_init_50 ?_
      refine lv_icmp_ge (tgt := 70) hx hb dX7_init_51 (by decide) (fun c38 => ?_) (fun c38 => ?_)
      · have n39 : 60 ≤ i := (nI_leI (a := 60) (b := i) (by omega) (by omega)).mp c38
        have hi9 : i = 60 := by omega
        subst hi9
        exact g_vret C0 G hr dX7_init_70 (Nat.le_of_ble_eq_true rfl) (Nat.le_of_ble_eq_true rfl) (by exact ⟨q3, q10, q23, (by omega), (by omega), (by omega), g1_, g2_, g3_, g0_, (fun a9 e9 h7 h8 => by have h6 := (Gz.1 _ _ h8).1.lt; rw [hsz] at h6; exact hfr9 _ _ h7 h8)⟩)
      · have n40 : ¬ 60 ≤ i := fun q => c38 ((nI_leI (a := 60) (b := i) (by omega) (by omega)).mpr q)
        refine lv_aload_n hx hb dX7_init_54 rfl (lv_at hl 1 rfl) ?_
        refine g_get C0 G g0_ rfl hiX7 2 (by decide) mf_X7_24 rfl dX7_init_55 ?_
        refine lv_iload_n hx hb dX7_init_58 rfl (lv_at hl 0 rfl) ?_
        refine lv_aload_n hx hb dX7_init_59 rfl (lv_at hl 1 rfl) ?_
        refine g_get C0 G g0_ rfl hiX7 1 (by decide) mf_X7_20 rfl dX7_init_60 ?_
        refine g_aast C0 G g3_ 4 rfl g2_ rfl (vp_in_nI (by omega) (by omega)) dX7_init_63 (fun H locs f41 hf41 G => ?_)
        have k42 : f41 q23 = some (.inl (cy 4, 60, .inr (.inr (.inr (.inr (va_up (sfl q10 i) (nI i).toNatClampNeg (some q10))))))) := hus hf41
        refine lv_iinc (v := nI (i + 1)) (lv' := [(1, .int (nI (i + 1))), (0, .ref th)]) hx hb dX7_init_64 hl (k := 0) rfl (by exact (nI_add _ _)) (by decide) rfl (fun ls hl => ?_)
        refine lv_goto (tgt := 45) hx hb dX7_init_67 (by decide) ?_
        have k44 : f41 th = some (.inr (9, [.ref q3, .ref q10, .ref q23, .int 0, .int 0])) := hup hf41 (by omega) g0_
        have k45 : f41 q3 = some (.inl (cy 1, 60, .inl (fun _ => 0))) := hup hf41 (by omega) g1_
        have k46 : f41 q10 = some (.inr (7, [.int 0, .int 0, .int 0, .int 0, .int 0, .int 0, .int 0, .int 0, .int 0])) := hup hf41 (by omega) g2_
        exact ih (i + 1) f41 _ _ _ (by omega) (by omega) ((fun a9 e9 h7 h8 => by have h6 := (Gz.1 _ _ h8).1.lt; rw [hsz] at h6; exact hup hf41 (Nat.ne_of_lt (Nat.lt_of_lt_of_le h6 (by omega))) (hfr9 _ _ h7 h8))) k44 k45 k46 (by have h5 := k42; rw [nI_c (by omega), sfl_s] at h5; exact h5) G (lv_sub hl [0, 1] rfl)
  exact LOOP45 61 0 f33 _ _ _ (by omega) (by omega) ((fun a9 e9 h7 h8 => by have h6 := (Gz.1 _ _ h8).1.lt; rw [hsz] at h6; exact hup hf33 h7 (hup hf31 h7 (hup hf29 h7 (hup hf24 (Nat.ne_of_lt (Nat.lt_of_lt_of_le h6 (by omega))) (hup hf21 h7 (fr19 _ _ (Nat.ne_of_lt (Nat.lt_of_lt_of_le h6 (by omega))) (hup hf11 (Nat.ne_of_lt (Nat.lt_of_lt_of_le h6 (by omega))) (hup hf8 h7 (hup hf4 (Nat.ne_of_lt (Nat.lt_of_lt_of_le h6 (by omega))) (h8))))))))))) k34 k35 k36 (by rw [sfl_0]; exact k37) G (lv_sub hl [0, 1] rfl)
