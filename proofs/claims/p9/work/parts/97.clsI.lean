set_option maxRecDepth 100000 in
theorem c_X5_init {l : Launch} (hfl : l.stackTraces = false) {D : va_G} {cy : Nat → ClassId} {f : Hf} {sz : Nat} {st : Nat} {ty : Int32} {nu : Int32} {wy : Int32} {kd : Int32} {ru : Int32} {so : Int32} {sb : Int32} {sc : Int32} {sh : Int32} (ty9 : Int32) (h_st : f st = some (.inr (7, [.int ty, .int nu, .int wy, .int kd, .int ru, .int so, .int sb, .int sc, .int sh])))  : hMet l yX5_init cX5_init 2 none { frames := 1, cells := 0, slots := 0, locals := 12 } D (hTy cy) f sz [.ref st, .int ty9] (hQv (fun u => u st = some (.inr (7, [.int ty9, .int nu, .int wy, .int kd, .int ru, .int so, .int sb, .int sc, .int sh])) ∧ hFrL f u [st]) D f sz) hNo := by
  refine h_enter (by decide) hfl (Nat.le_of_ble_eq_true rfl) ?_
  intro p9 e9 s9 m9 b9 t9 c9 hsz C0 hr hnm G ls hl
  have hx := C0.1.1
  have hb := C0.1.2.1
  have hl : lv_has ls 2 [(0, .ref st), (1, .int ty9)] := hl
  have hin : t9.name = "<init>" := hnm
  refine lv_aload_n hx hb dX5_init_0 rfl (lv_at hl 0 rfl) ?_
  refine W.objInit hx hb C0.1.2.2.2.1 (C0.2.2.2.1.1 _ mm_X5_3 rfl _) (C0.2.2.2.1.1 _ mi_java_lang_Object__init____V rfl _) (C0.2.2.2.1.1 _ mc_objinit rfl _) rfl (by rw [C0.1.2.2.1]; exact hl.1) rfl dX5_init_1 (Nat.le_of_ble_eq_true rfl) (Nat.le_of_ble_eq_true rfl) ?_
  refine W.eq (g2 := F0 m9 4 ls []) rfl ?_
  refine lv_aload_n hx hb dX5_init_4 rfl (lv_at hl 0 rfl) ?_
  refine lv_iload_n hx hb dX5_init_5 rfl (lv_at hl 1 rfl) ?_
  refine g_putF C0 G hin h_st rfl hiX5 tyX5 tyX5_ok nmX5 0 (by decide) mf_X5_9 rfl rfl rfl rfl rfl (Nat.le_of_ble_eq_true rfl) dX5_init_6 (fun H locs f11 hf11 G => ?_)
  have k12 : f11 st = some (.inr (7, [.int ty9, .int nu, .int wy, .int kd, .int ru, .int so, .int sb, .int sc, .int sh])) := hus hf11
  exact g_vret C0 G hr dX5_init_9 (Nat.le_of_ble_eq_true rfl) (Nat.le_of_ble_eq_true rfl) (by exact ⟨k12, (fun a9 e9 h7 h8 => hup hf11 (fun q => h7 (by rw [q]; simp)) (h8))⟩)
set_option maxRecDepth 100000 in
theorem c_X5_ofNumber {l : Launch} (hfl : l.stackTraces = false) {D : va_G} {cy : Nat → ClassId} {f : Hf} {sz : Nat} (ty9 : Int32) (nu9 : Int32)   : hMet l yX5_ofNumber cX5_ofNumber 3 (some (.object "WicketScorer$Step")) { frames := 2, cells := 1, slots := 9, locals := 33 } D (hTy cy) f sz [.int ty9, .int nu9] (hQr (fun r u => f r = none ∧ u r = some (.inr (7, [.int ty9, .int nu9, .int 0, .int 0, .int 0, .int 0, .int 0, .int 0, .int 0])) ∧ hFrL f u []) D f sz) hNo := by
  refine h_enter (by decide) hfl (Nat.le_of_ble_eq_true rfl) ?_
  intro p9 e9 s9 m9 b9 t9 c9 hsz C0 hr hnm G ls hl
  have hx := C0.1.1
  have hb := C0.1.2.1
  have hl : lv_has ls 3 [(0, .int ty9), (1, .int nu9)] := hl
  have zq11 := G.2.1
  refine g_new C0 G (ci := 7) (fs := [.int 0, .int 0, .int 0, .int 0, .int 0, .int 0, .int 0, .int 0, .int 0]) rfl hiX5 tyX5 tyX5_ok mk_X5_10 mn_X5 mz_X5 (fun j hj => by rcases (show j = 0 ∨ j = 1 ∨ j = 2 ∨ j = 3 ∨ j = 4 ∨ j = 5 ∨ j = 6 ∨ j = 7 ∨ j = 8 by omega) with rfl | rfl | rfl | rfl | rfl | rfl | rfl | rfl | rfl <;> rfl) (Nat.le_of_ble_eq_true rfl) (Nat.le_of_ble_eq_true rfl) dX5_ofNumber_0 (fun q11 H f12 nq11 hf12 G hzq11 => ?_)
  have k13 : f12 q11 = some (.inr (7, [.int 0, .int 0, .int 0, .int 0, .int 0, .int 0, .int 0, .int 0, .int 0])) := hus hf12
  refine lv_dup hx hb dX5_ofNumber_3 rfl ?_
  refine lv_iload_n hx hb dX5_ofNumber_4 rfl (lv_at hl 0 rfl) ?_
  refine g_cV C0 G (g_runI C0 G (rest := [.ref q11]) (c_X5_init hfl ty9 k13) hY_X5_init mm_X5_15 mi_X5_init rfl ⟨(Nat.le_of_ble_eq_true rfl), (Nat.le_of_ble_eq_true rfl)⟩ rfl hl.1 rfl (Nat.le_of_ble_eq_true rfl) dX5_ofNumber_5 ⟨(Nat.le_of_ble_eq_true rfl), (Nat.le_of_ble_eq_true rfl)⟩) (kx_no rfl) (fun u15 H locs hp14 G => ?_)
  obtain ⟨k16, fr17⟩ := hp14
  refine lv_astore_n (lv' := [(2, .ref q11), (0, .int ty9), (1, .int nu9)]) hx hb dX5_ofNumber_8 rfl hl (by decide) rfl (fun ls hl => ?_)
  refine lv_aload_n hx hb dX5_ofNumber_9 rfl (lv_at hl 0 rfl) ?_
  refine lv_iload_n hx hb dX5_ofNumber_10 rfl (lv_at hl 2 rfl) ?_
  refine g_put C0 G k16 rfl hiX5 tyX5 tyX5_ok nmX5 1 (by decide) mf_X5_18 rfl rfl rfl rfl (Nat.le_of_ble_eq_true rfl) dX5_ofNumber_11 (fun H locs f18 hf18 G => ?_)
  have k19 : f18 q11 = some (.inr (7, [.int ty9, .int nu9, .int 0, .int 0, .int 0, .int 0, .int 0, .int 0, .int 0])) := hus hf18
  refine lv_aload_n hx hb dX5_ofNumber_14 rfl (lv_at hl 0 rfl) ?_
  exact g_aret C0 G hr dX5_ofNumber_15 (Nat.le_of_ble_eq_true rfl) (Nat.le_of_ble_eq_true rfl) (by exact ⟨nq11, k19, (fun a9 e9 h7 h8 => hup hf18 (hneN h8 nq11) (fr17 _ _ (fun q => by simp only [List.mem_cons, List.not_mem_nil, or_false] at q; exact hneN h8 nq11 q) (hup hf12 (hneN h8 nq11) (h8))))⟩)
set_option maxRecDepth 100000 in
theorem c_X5_ofBall {l : Launch} (hfl : l.stackTraces = false) {D : va_G} {cy : Nat → ClassId} {f : Hf} {sz : Nat} (ki : Int32) (ru9 : Int32) (bo9 : Int32)  (hb_bo9 : bo9 = 0 ∨ bo9 = 1) : hMet l yX5_ofBall cX5_ofBall 4 (some (.object "WicketScorer$Step")) { frames := 2, cells := 1, slots := 9, locals := 33 } D (hTy cy) f sz [.int ki, .int ru9, .int bo9] (hQr (fun r u => f r = none ∧ u r = some (.inr (7, [.int 2, .int 0, .int 0, .int ki, .int ru9, .int 0, .int bo9, .int 0, .int 0])) ∧ hFrL f u []) D f sz) hNo := by
  refine h_enter (by decide) hfl (Nat.le_of_ble_eq_true rfl) ?_
  intro p9 e9 s9 m9 b9 t9 c9 hsz C0 hr hnm G ls hl
  have hx := C0.1.1
  have hb := C0.1.2.1
  have hl : lv_has ls 4 [(0, .int ki), (1, .int ru9), (2, .int bo9)] := hl
  have zq11 := G.2.1
  refine g_new C0 G (ci := 7) (fs := [.int 0, .int 0, .int 0, .int 0, .int 0, .int 0, .int 0, .int 0, .int 0]) rfl hiX5 tyX5 tyX5_ok mk_X5_10 mn_X5 mz_X5 (fun j hj => by rcases (show j = 0 ∨ j = 1 ∨ j = 2 ∨ j = 3 ∨ j = 4 ∨ j = 5 ∨ j = 6 ∨ j = 7 ∨ j = 8 by omega) with rfl | rfl | rfl | rfl | rfl | rfl | rfl | rfl | rfl <;> rfl) (Nat.le_of_ble_eq_true rfl) (Nat.le_of_ble_eq_true rfl) dX5_ofBall_0 (fun q11 H f12 nq11 hf12 G hzq11 => ?_)
  have k13 : f12 q11 = some (.inr (7, [.int 0, .int 0, .int 0, .int 0, .int 0, .int 0, .int 0, .int 0, .int 0])) := hus hf12
  refine lv_dup hx hb dX5_ofBall_3 rfl ?_
  refine lv_iconst (v := 2) hx hb dX5_ofBall_4 (by decide) ?_
  refine g_cV C0 G (g_runI C0 G (rest := [.ref q11]) (c_X5_init hfl 2 k13) hY_X5_init mm_X5_15 mi_X5_init rfl ⟨(Nat.le_of_ble_eq_true rfl), (Nat.le_of_ble_eq_true rfl)⟩ rfl hl.1 rfl (Nat.le_of_ble_eq_true rfl) dX5_ofBall_5 ⟨(Nat.le_of_ble_eq_true rfl), (Nat.le_of_ble_eq_true rfl)⟩) (kx_no rfl) (fun u15 H locs hp14 G => ?_)
  obtain ⟨k16, fr17⟩ := hp14
  refine lv_astore_n (lv' := [(3, .ref q11), (0, .int ki), (1, .int ru9), (2, .int bo9)]) hx hb dX5_ofBall_8 rfl hl (by decide) rfl (fun ls hl => ?_)
  refine lv_aload_n hx hb dX5_ofBall_9 rfl (lv_at hl 0 rfl) ?_
  refine lv_iload_n hx hb dX5_ofBall_10 rfl (lv_at hl 1 rfl) ?_
  refine g_put C0 G k16 rfl hiX5 tyX5 tyX5_ok nmX5 3 (by decide) mf_X5_21 rfl rfl rfl rfl (Nat.le_of_ble_eq_true rfl) dX5_ofBall_11 (fun H locs f18 hf18 G => ?_)
  have k19 : f18 q11 = some (.inr (7, [.int 2, .int 0, .int 0, .int ki, .int 0, .int 0, .int 0, .int 0, .int 0])) := hus hf18
  refine lv_aload_n hx hb dX5_ofBall_14 rfl (lv_at hl 0 rfl) ?_
  refine lv_iload_n hx hb dX5_ofBall_15 rfl (lv_at hl 2 rfl) ?_
  refine g_put C0 G k19 rfl hiX5 tyX5 tyX5_ok nmX5 4 (by decide) mf_X5_24 rfl rfl rfl rfl (Nat.le_of_ble_eq_true rfl) dX5_ofBall_16 (fun H locs f20 hf20 G => ?_)
  have k21 : f20 q11 = some (.inr (7, [.int 2, .int 0, .int 0, .int ki, .int ru9, .int 0, .int 0, .int 0, .int 0])) := hus hf20
  refine lv_aload_n hx hb dX5_ofBall_19 rfl (lv_at hl 0 rfl) ?_
  refine lv_iload_n hx hb dX5_ofBall_20 rfl (lv_at hl 3 rfl) ?_
  refine g_put C0 G k21 rfl hiX5 tyX5 tyX5_ok nmX5 6 (by decide) mf_X5_27 rfl rfl (hZb hb_bo9) (hFb hb_bo9) (Nat.le_of_ble_eq_true rfl) dX5_ofBall_21 (fun H locs f22 hf22 G => ?_)
  have k23 : f22 q11 = some (.inr (7, [.int 2, .int 0, .int 0, .int ki, .int ru9, .int 0, .int bo9, .int 0, .int 0])) := hus hf22
  refine lv_aload_n hx hb dX5_ofBall_24 rfl (lv_at hl 0 rfl) ?_
  exact g_aret C0 G hr dX5_ofBall_25 (Nat.le_of_ble_eq_true rfl) (Nat.le_of_ble_eq_true rfl) (by exact ⟨nq11, k23, (fun a9 e9 h7 h8 => hup hf22 (hneN h8 nq11) (hup hf20 (hneN h8 nq11) (hup hf18 (hneN h8 nq11) (fr17 _ _ (fun q => by simp only [List.mem_cons, List.not_mem_nil, or_false] at q; exact hneN h8 nq11 q) (hup hf12 (hneN h8 nq11) (h8))))))⟩)
set_option maxRecDepth 100000 in
theorem c_X5_ofWicket {l : Launch} (hfl : l.stackTraces = false) {D : va_G} {cy : Nat → ClassId} {f : Hf} {sz : Nat} (wa : Int32) (ki : Int32) (ot9 : Int32) (ru9 : Int32) (cr9 : Int32)  (hb_ot9 : ot9 = 0 ∨ ot9 = 1) (hb_cr9 : cr9 = 0 ∨ cr9 = 1) : hMet l yX5_ofWicket cX5_ofWicket 6 (some (.object "WicketScorer$Step")) { frames := 2, cells := 1, slots := 9, locals := 33 } D (hTy cy) f sz [.int wa, .int ki, .int ot9, .int ru9, .int cr9] (hQr (fun r u => f r = none ∧ u r = some (.inr (7, [.int 3, .int 0, .int wa, .int ki, .int ru9, .int ot9, .int 0, .int cr9, .int 0])) ∧ hFrL f u []) D f sz) hNo := by
  refine h_enter (by decide) hfl (Nat.le_of_ble_eq_true rfl) ?_
  intro p9 e9 s9 m9 b9 t9 c9 hsz C0 hr hnm G ls hl
  have hx := C0.1.1
  have hb := C0.1.2.1
  have hl : lv_has ls 6 [(0, .int wa), (1, .int ki), (2, .int ot9), (3, .int ru9), (4, .int cr9)] := hl
  have zq11 := G.2.1
  refine g_new C0 G (ci := 7) (fs := [.int 0, .int 0, .int 0, .int 0, .int 0, .int 0, .int 0, .int 0, .int 0]) rfl hiX5 tyX5 tyX5_ok mk_X5_10 mn_X5 mz_X5 (fun j hj => by rcases (show j = 0 ∨ j = 1 ∨ j = 2 ∨ j = 3 ∨ j = 4 ∨ j = 5 ∨ j = 6 ∨ j = 7 ∨ j = 8 by omega) with rfl | rfl | rfl | rfl | rfl | rfl | rfl | rfl | rfl <;> rfl) (Nat.le_of_ble_eq_true rfl) (Nat.le_of_ble_eq_true rfl) dX5_ofWicket_0 (fun q11 H f12 nq11 hf12 G hzq11 => ?_)
  have k13 : f12 q11 = some (.inr (7, [.int 0, .int 0, .int 0, .int 0, .int 0, .int 0, .int 0, .int 0, .int 0])) := hus hf12
  refine lv_dup hx hb dX5_ofWicket_3 rfl ?_
  refine lv_iconst (v := 3) hx hb dX5_ofWicket_4 (by decide) ?_
  refine g_cV C0 G (g_runI C0 G (rest := [.ref q11]) (c_X5_init hfl 3 k13) hY_X5_init mm_X5_15 mi_X5_init rfl ⟨(Nat.le_of_ble_eq_true rfl), (Nat.le_of_ble_eq_true rfl)⟩ rfl hl.1 rfl (Nat.le_of_ble_eq_true rfl) dX5_ofWicket_5 ⟨(Nat.le_of_ble_eq_true rfl), (Nat.le_of_ble_eq_true rfl)⟩) (kx_no rfl) (fun u15 H locs hp14 G => ?_)
  obtain ⟨k16, fr17⟩ := hp14
  refine lv_astore (lv' := [(5, .ref q11), (0, .int wa), (1, .int ki), (2, .int ot9), (3, .int ru9), (4, .int cr9)]) hx hb dX5_ofWicket_8 hl (by decide) rfl (fun ls hl => ?_)
  refine lv_aload hx hb dX5_ofWicket_10 (lv_at hl 0 rfl) ?_
  refine lv_iload_n hx hb dX5_ofWicket_12 rfl (lv_at hl 1 rfl) ?_
  refine g_put C0 G k16 rfl hiX5 tyX5 tyX5_ok nmX5 2 (by decide) mf_X5_31 rfl rfl rfl rfl (Nat.le_of_ble_eq_true rfl) dX5_ofWicket_13 (fun H locs f18 hf18 G => ?_)
  have k19 : f18 q11 = some (.inr (7, [.int 3, .int 0, .int wa, .int 0, .int 0, .int 0, .int 0, .int 0, .int 0])) := hus hf18
  refine lv_aload hx hb dX5_ofWicket_16 (lv_at hl 0 rfl) ?_
  refine lv_iload_n hx hb dX5_ofWicket_18 rfl (lv_at hl 2 rfl) ?_
  refine g_put C0 G k19 rfl hiX5 tyX5 tyX5_ok nmX5 3 (by decide) mf_X5_21 rfl rfl rfl rfl (Nat.le_of_ble_eq_true rfl) dX5_ofWicket_19 (fun H locs f20 hf20 G => ?_)
  have k21 : f20 q11 = some (.inr (7, [.int 3, .int 0, .int wa, .int ki, .int 0, .int 0, .int 0, .int 0, .int 0])) := hus hf20
  refine lv_aload hx hb dX5_ofWicket_22 (lv_at hl 0 rfl) ?_
  refine lv_iload_n hx hb dX5_ofWicket_24 rfl (lv_at hl 3 rfl) ?_
  refine g_put C0 G k21 rfl hiX5 tyX5 tyX5_ok nmX5 5 (by decide) mf_X5_34 rfl rfl (hZb hb_ot9) (hFb hb_ot9) (Nat.le_of_ble_eq_true rfl) dX5_ofWicket_25 (fun H locs f22 hf22 G => ?_)
  have k23 : f22 q11 = some (.inr (7, [.int 3, .int 0, .int wa, .int ki, .int 0, .int ot9, .int 0, .int 0, .int 0])) := hus hf22
  refine lv_aload hx hb dX5_ofWicket_28 (lv_at hl 0 rfl) ?_
  refine lv_iload_n hx hb dX5_ofWicket_30 rfl (lv_at hl 4 rfl) ?_
  refine g_put C0 G k23 rfl hiX5 tyX5 tyX5_ok nmX5 4 (by decide) mf_X5_24 rfl rfl rfl rfl (Nat.le_of_ble_eq_true rfl) dX5_ofWicket_31 (fun H locs f24 hf24 G => ?_)
  have k25 : f24 q11 = some (.inr (7, [.int 3, .int 0, .int wa, .int ki, .int ru9, .int ot9, .int 0, .int 0, .int 0])) := hus hf24
  refine lv_aload hx hb dX5_ofWicket_34 (lv_at hl 0 rfl) ?_
  refine lv_iload hx hb dX5_ofWicket_36 (lv_at hl 5 rfl) ?_
  refine g_put C0 G k25 rfl hiX5 tyX5 tyX5_ok nmX5 7 (by decide) mf_X5_37 rfl rfl (hZb hb_cr9) (hFb hb_cr9) (Nat.le_of_ble_eq_true rfl) dX5_ofWicket_38 (fun H locs f26 hf26 G => ?_)
  have k27 : f26 q11 = some (.inr (7, [.int 3, .int 0, .int wa, .int ki, .int ru9, .int ot9, .int 0, .int cr9, .int 0])) := hus hf26
  refine lv_aload hx hb dX5_ofWicket_41 (lv_at hl 0 rfl) ?_
  exact g_aret C0 G hr dX5_ofWicket_43 (Nat.le_of_ble_eq_true rfl) (Nat.le_of_ble_eq_true rfl) (by exact ⟨nq11, k27, (fun a9 e9 h7 h8 => hup hf26 (hneN h8 nq11) (hup hf24 (hneN h8 nq11) (hup hf22 (hneN h8 nq11) (hup hf20 (hneN h8 nq11) (hup hf18 (hneN h8 nq11) (fr17 _ _ (fun q => by simp only [List.mem_cons, List.not_mem_nil, or_false] at q; exact hneN h8 nq11 q) (hup hf12 (hneN h8 nq11) (h8))))))))⟩)
set_option maxRecDepth 100000 in
theorem c_X5_ofRetirement {l : Launch} (hfl : l.stackTraces = false) {D : va_G} {cy : Nat → ClassId} {f : Hf} {sz : Nat} (ot9 : Int32) (hu9 : Int32)  (hb_ot9 : ot9 = 0 ∨ ot9 = 1) (hb_hu9 : hu9 = 0 ∨ hu9 = 1) : hMet l yX5_ofRetirement cX5_ofRetirement 3 (some (.object "WicketScorer$Step")) { frames := 2, cells := 1, slots := 9, locals := 33 } D (hTy cy) f sz [.int ot9, .int hu9] (hQr (fun r u => f r = none ∧ u r = some (.inr (7, [.int 4, .int 0, .int 0, .int 0, .int 0, .int ot9, .int 0, .int 0, .int hu9])) ∧ hFrL f u []) D f sz) hNo := by
  refine h_enter (by decide) hfl (Nat.le_of_ble_eq_true rfl) ?_
  intro p9 e9 s9 m9 b9 t9 c9 hsz C0 hr hnm G ls hl
  have hx := C0.1.1
  have hb := C0.1.2.1
  have hl : lv_has ls 3 [(0, .int ot9), (1, .int hu9)] := hl
  have zq11 := G.2.1
  refine g_new C0 G (ci := 7) (fs := [.int 0, .int 0, .int 0, .int 0, .int 0, .int 0, .int 0, .int 0, .int 0]) rfl hiX5 tyX5 tyX5_ok mk_X5_10 mn_X5 mz_X5 (fun j hj => by rcases (show j = 0 ∨ j = 1 ∨ j = 2 ∨ j = 3 ∨ j = 4 ∨ j = 5 ∨ j = 6 ∨ j = 7 ∨ j = 8 by omega) with rfl | rfl | rfl | rfl | rfl | rfl | rfl | rfl | rfl <;> rfl) (Nat.le_of_ble_eq_true rfl) (Nat.le_of_ble_eq_true rfl) dX5_ofRetirement_0 (fun q11 H f12 nq11 hf12 G hzq11 => ?_)
  have k13 : f12 q11 = some (.inr (7, [.int 0, .int 0, .int 0, .int 0, .int 0, .int 0, .int 0, .int 0, .int 0])) := hus hf12
  refine lv_dup hx hb dX5_ofRetirement_3 rfl ?_
  refine lv_iconst (v := 4) hx hb dX5_ofRetirement_4 (by decide) ?_
  refine g_cV C0 G (g_runI C0 G (rest := [.ref q11]) (c_X5_init hfl 4 k13) hY_X5_init mm_X5_15 mi_X5_init rfl ⟨(Nat.le_of_ble_eq_true rfl), (Nat.le_of_ble_eq_true rfl)⟩ rfl hl.1 rfl (Nat.le_of_ble_eq_true rfl) dX5_ofRetirement_5 ⟨(Nat.le_of_ble_eq_true rfl), (Nat.le_of_ble_eq_true rfl)⟩) (kx_no rfl) (fun u15 H locs hp14 G => ?_)
  obtain ⟨k16, fr17⟩ := hp14
  refine lv_astore_n (lv' := [(2, .ref q11), (0, .int ot9), (1, .int hu9)]) hx hb dX5_ofRetirement_8 rfl hl (by decide) rfl (fun ls hl => ?_)
  refine lv_aload_n hx hb dX5_ofRetirement_9 rfl (lv_at hl 0 rfl) ?_
  refine lv_iload_n hx hb dX5_ofRetirement_10 rfl (lv_at hl 1 rfl) ?_
  refine g_put C0 G k16 rfl hiX5 tyX5 tyX5_ok nmX5 5 (by decide) mf_X5_34 rfl rfl (hZb hb_ot9) (hFb hb_ot9) (Nat.le_of_ble_eq_true rfl) dX5_ofRetirement_11 (fun H locs f18 hf18 G => ?_)
  have k19 : f18 q11 = some (.inr (7, [.int 4, .int 0, .int 0, .int 0, .int 0, .int ot9, .int 0, .int 0, .int 0])) := hus hf18
  refine lv_aload_n hx hb dX5_ofRetirement_14 rfl (lv_at hl 0 rfl) ?_
  refine lv_iload_n hx hb dX5_ofRetirement_15 rfl (lv_at hl 2 rfl) ?_
  refine g_put C0 G k19 rfl hiX5 tyX5 tyX5_ok nmX5 8 (by decide) mf_X5_40 rfl rfl (hZb hb_hu9) (hFb hb_hu9) (Nat.le_of_ble_eq_true rfl) dX5_ofRetirement_16 (fun H locs f20 hf20 G => ?_)
  have k21 : f20 q11 = some (.inr (7, [.int 4, .int 0, .int 0, .int 0, .int 0, .int ot9, .int 0, .int 0, .int hu9])) := hus hf20
  refine lv_aload_n hx hb dX5_ofRetirement_19 rfl (lv_at hl 0 rfl) ?_
  exact g_aret C0 G hr dX5_ofRetirement_20 (Nat.le_of_ble_eq_true rfl) (Nat.le_of_ble_eq_true rfl) (by exact ⟨nq11, k21, (fun a9 e9 h7 h8 => hup hf20 (hneN h8 nq11) (hup hf18 (hneN h8 nq11) (fr17 _ _ (fun q => by simp only [List.mem_cons, List.not_mem_nil, or_false] at q; exact hneN h8 nq11 q) (hup hf12 (hneN h8 nq11) (h8)))))⟩)
