def hFrL (f u : Hf) (L : List Nat) : Prop := ∀ (a : Nat) (e : va_E), a ∉ L → f a = some e → u a = some e
theorem hZb {b : Int32} (h : b = 0 ∨ b = 1) : narrow .boolean (.int b) = .int b := by rcases h with rfl | rfl <;> rfl
theorem hFb {b : Int32} (h : b = 0 ∨ b = 1) : fits .boolean (.int b) = true := by rcases h with rfl | rfl <;> rfl
set_option maxRecDepth 100000 in
theorem k_X5_ofNumber {l : Launch} (hfl : l.stackTraces = false) {D : va_G} {cy : Nat → ClassId} {f : Hf} {sz : Nat} (ty nu : Int32)  : hMet l yX5_ofNumber cX5_ofNumber 3 (some (.object "WicketScorer$Step")) { frames := 2, cells := 1, slots := 9, locals := 33 } D (hTy cy) f sz [.int ty, .int nu] (hQr (fun a u => sz ≤ a ∧ u a = some (.inr (7, [.int ty, .int nu, .int 0, .int 0, .int 0, .int 0, .int 0, .int 0, .int 0])) ∧ hFr f u a) D f sz) hNo := by
  refine h_enter (by decide) hfl (Nat.le_of_ble_eq_true rfl) ?_
  intro p9 e9 s9 m9 b9 t9 c9 hsz C0 hr hnm G ls hl
  have hx := C0.1.1
  have hb := C0.1.2.1
  have Gz := G
  have hl : lv_has ls 3 [(0, .int ty), (1, .int nu)] := hl
  have zq1 := G.2.1
  refine g_new C0 G (ci := 7) (fs := [.int 0, .int 0, .int 0, .int 0, .int 0, .int 0, .int 0, .int 0, .int 0]) rfl hiX5 tyX5 tyX5_ok mk_X5_10 mn_X5 mz_X5 (fun j hj => by rcases (show j = 0 ∨ j = 1 ∨ j = 2 ∨ j = 3 ∨ j = 4 ∨ j = 5 ∨ j = 6 ∨ j = 7 ∨ j = 8 by omega) with rfl | rfl | rfl | rfl | rfl | rfl | rfl | rfl | rfl <;> rfl) (Nat.le_of_ble_eq_true rfl) (Nat.le_of_ble_eq_true rfl) dX5_ofNumber_0 (fun q1 H f2 nq1 hf2 G hzq1 => ?_)
  have k3 : f2 q1 = some (.inr (7, [.int 0, .int 0, .int 0, .int 0, .int 0, .int 0, .int 0, .int 0, .int 0])) := hus hf2
  refine lv_dup hx hb dX5_ofNumber_3 rfl ?_
  refine lv_iload_n hx hb dX5_ofNumber_4 rfl (lv_at hl 0 rfl) ?_
  have z4 : q1 < _ := (G.1 _ _ k3).1.lt
  refine g_cV C0 G (g_runI C0 G (rest := [.ref q1]) (k_X5_init hfl ty k3) hY_X5_init mm_X5_15 mi_X5_init rfl ⟨(Nat.le_of_ble_eq_true rfl), (Nat.le_of_ble_eq_true rfl)⟩ rfl hl.1 rfl (Nat.le_of_ble_eq_true rfl) dX5_ofNumber_5 ⟨(Nat.le_of_ble_eq_true rfl), (Nat.le_of_ble_eq_true rfl)⟩) (kx_no rfl) (fun u6 H locs hp5 G => ?_)
  obtain ⟨k7, fr8⟩ := hp5
  refine lv_astore_n (lv' := [(2, .ref q1), (0, .int ty), (1, .int nu)]) hx hb dX5_ofNumber_8 rfl hl (by decide) rfl (fun ls hl => ?_)
  refine lv_aload_n hx hb dX5_ofNumber_9 rfl (lv_at hl 0 rfl) ?_
  refine lv_iload_n hx hb dX5_ofNumber_10 rfl (lv_at hl 2 rfl) ?_
  refine g_put C0 G k7 rfl hiX5 tyX5 tyX5_ok nmX5 1 (by decide) mf_X5_18 rfl rfl rfl rfl (Nat.le_of_ble_eq_true rfl) dX5_ofNumber_11 (fun H locs f9 hf9 G => ?_)
  have k10 : f9 q1 = some (.inr (7, [.int ty, .int nu, .int 0, .int 0, .int 0, .int 0, .int 0, .int 0, .int 0])) := hus hf9
  refine lv_aload_n hx hb dX5_ofNumber_14 rfl (lv_at hl 0 rfl) ?_
  exact g_aret C0 G hr dX5_ofNumber_15 (Nat.le_of_ble_eq_true rfl) (Nat.le_of_ble_eq_true rfl) (by exact ⟨by omega, k10, (fun a9 e9 h7 h8 => by have h6 := (Gz.1 _ _ h8).1.lt; rw [hsz] at h6; exact hup hf9 h7 (fr8 _ _ h7 (hup hf2 h7 (h8))))⟩)
set_option maxRecDepth 100000 in
theorem k_X5_ofBall {l : Launch} (hfl : l.stackTraces = false) {D : va_G} {cy : Nat → ClassId} {f : Hf} {sz : Nat} (ki ru bo : Int32) (hb_bo : bo = 0 ∨ bo = 1) : hMet l yX5_ofBall cX5_ofBall 4 (some (.object "WicketScorer$Step")) { frames := 2, cells := 1, slots := 9, locals := 33 } D (hTy cy) f sz [.int ki, .int ru, .int bo] (hQr (fun a u => sz ≤ a ∧ u a = some (.inr (7, [.int 2, .int 0, .int 0, .int ki, .int ru, .int 0, .int bo, .int 0, .int 0])) ∧ hFr f u a) D f sz) hNo := by
  refine h_enter (by decide) hfl (Nat.le_of_ble_eq_true rfl) ?_
  intro p9 e9 s9 m9 b9 t9 c9 hsz C0 hr hnm G ls hl
  have hx := C0.1.1
  have hb := C0.1.2.1
  have Gz := G
  have hl : lv_has ls 4 [(0, .int ki), (1, .int ru), (2, .int bo)] := hl
  have zq1 := G.2.1
  refine g_new C0 G (ci := 7) (fs := [.int 0, .int 0, .int 0, .int 0, .int 0, .int 0, .int 0, .int 0, .int 0]) rfl hiX5 tyX5 tyX5_ok mk_X5_10 mn_X5 mz_X5 (fun j hj => by rcases (show j = 0 ∨ j = 1 ∨ j = 2 ∨ j = 3 ∨ j = 4 ∨ j = 5 ∨ j = 6 ∨ j = 7 ∨ j = 8 by omega) with rfl | rfl | rfl | rfl | rfl | rfl | rfl | rfl | rfl <;> rfl) (Nat.le_of_ble_eq_true rfl) (Nat.le_of_ble_eq_true rfl) dX5_ofBall_0 (fun q1 H f2 nq1 hf2 G hzq1 => ?_)
  have k3 : f2 q1 = some (.inr (7, [.int 0, .int 0, .int 0, .int 0, .int 0, .int 0, .int 0, .int 0, .int 0])) := hus hf2
  refine lv_dup hx hb dX5_ofBall_3 rfl ?_
  refine lv_iconst (v := 2) hx hb dX5_ofBall_4 (by decide) ?_
  have z4 : q1 < _ := (G.1 _ _ k3).1.lt
  refine g_cV C0 G (g_runI C0 G (rest := [.ref q1]) (k_X5_init hfl 2 k3) hY_X5_init mm_X5_15 mi_X5_init rfl ⟨(Nat.le_of_ble_eq_true rfl), (Nat.le_of_ble_eq_true rfl)⟩ rfl hl.1 rfl (Nat.le_of_ble_eq_true rfl) dX5_ofBall_5 ⟨(Nat.le_of_ble_eq_true rfl), (Nat.le_of_ble_eq_true rfl)⟩) (kx_no rfl) (fun u6 H locs hp5 G => ?_)
  obtain ⟨k7, fr8⟩ := hp5
  refine lv_astore_n (lv' := [(3, .ref q1), (0, .int ki), (1, .int ru), (2, .int bo)]) hx hb dX5_ofBall_8 rfl hl (by decide) rfl (fun ls hl => ?_)
  refine lv_aload_n hx hb dX5_ofBall_9 rfl (lv_at hl 0 rfl) ?_
  refine lv_iload_n hx hb dX5_ofBall_10 rfl (lv_at hl 1 rfl) ?_
  refine g_put C0 G k7 rfl hiX5 tyX5 tyX5_ok nmX5 3 (by decide) mf_X5_21 rfl rfl rfl rfl (Nat.le_of_ble_eq_true rfl) dX5_ofBall_11 (fun H locs f9 hf9 G => ?_)
  have k10 : f9 q1 = some (.inr (7, [.int 2, .int 0, .int 0, .int ki, .int 0, .int 0, .int 0, .int 0, .int 0])) := hus hf9
  refine lv_aload_n hx hb dX5_ofBall_14 rfl (lv_at hl 0 rfl) ?_
  refine lv_iload_n hx hb dX5_ofBall_15 rfl (lv_at hl 2 rfl) ?_
  refine g_put C0 G k10 rfl hiX5 tyX5 tyX5_ok nmX5 4 (by decide) mf_X5_24 rfl rfl rfl rfl (Nat.le_of_ble_eq_true rfl) dX5_ofBall_16 (fun H locs f11 hf11 G => ?_)
  have k12 : f11 q1 = some (.inr (7, [.int 2, .int 0, .int 0, .int ki, .int ru, .int 0, .int 0, .int 0, .int 0])) := hus hf11
  refine lv_aload_n hx hb dX5_ofBall_19 rfl (lv_at hl 0 rfl) ?_
  refine lv_iload_n hx hb dX5_ofBall_20 rfl (lv_at hl 3 rfl) ?_
  refine g_put C0 G k12 rfl hiX5 tyX5 tyX5_ok nmX5 6 (by decide) mf_X5_27 rfl rfl (hZb hb_bo) (hFb hb_bo) (Nat.le_of_ble_eq_true rfl) dX5_ofBall_21 (fun H locs f13 hf13 G => ?_)
  have k14 : f13 q1 = some (.inr (7, [.int 2, .int 0, .int 0, .int ki, .int ru, .int 0, .int bo, .int 0, .int 0])) := hus hf13
  refine lv_aload_n hx hb dX5_ofBall_24 rfl (lv_at hl 0 rfl) ?_
  exact g_aret C0 G hr dX5_ofBall_25 (Nat.le_of_ble_eq_true rfl) (Nat.le_of_ble_eq_true rfl) (by exact ⟨by omega, k14, (fun a9 e9 h7 h8 => by have h6 := (Gz.1 _ _ h8).1.lt; rw [hsz] at h6; exact hup hf13 h7 (hup hf11 h7 (hup hf9 h7 (fr8 _ _ h7 (hup hf2 h7 (h8))))))⟩)
set_option maxRecDepth 100000 in
theorem k_X5_ofWicket {l : Launch} (hfl : l.stackTraces = false) {D : va_G} {cy : Nat → ClassId} {f : Hf} {sz : Nat} (wa ki ot ru cr : Int32) (hb_ot : ot = 0 ∨ ot = 1) (hb_cr : cr = 0 ∨ cr = 1) : hMet l yX5_ofWicket cX5_ofWicket 6 (some (.object "WicketScorer$Step")) { frames := 2, cells := 1, slots := 9, locals := 33 } D (hTy cy) f sz [.int wa, .int ki, .int ot, .int ru, .int cr] (hQr (fun a u => sz ≤ a ∧ u a = some (.inr (7, [.int 3, .int 0, .int wa, .int ki, .int ru, .int ot, .int 0, .int cr, .int 0])) ∧ hFr f u a) D f sz) hNo := by
  refine h_enter (by decide) hfl (Nat.le_of_ble_eq_true rfl) ?_
  intro p9 e9 s9 m9 b9 t9 c9 hsz C0 hr hnm G ls hl
  have hx := C0.1.1
  have hb := C0.1.2.1
  have Gz := G
  have hl : lv_has ls 6 [(0, .int wa), (1, .int ki), (2, .int ot), (3, .int ru), (4, .int cr)] := hl
  have zq1 := G.2.1
  refine g_new C0 G (ci := 7) (fs := [.int 0, .int 0, .int 0, .int 0, .int 0, .int 0, .int 0, .int 0, .int 0]) rfl hiX5 tyX5 tyX5_ok mk_X5_10 mn_X5 mz_X5 (fun j hj => by rcases (show j = 0 ∨ j = 1 ∨ j = 2 ∨ j = 3 ∨ j = 4 ∨ j = 5 ∨ j = 6 ∨ j = 7 ∨ j = 8 by omega) with rfl | rfl | rfl | rfl | rfl | rfl | rfl | rfl | rfl <;> rfl) (Nat.le_of_ble_eq_true rfl) (Nat.le_of_ble_eq_true rfl) dX5_ofWicket_0 (fun q1 H f2 nq1 hf2 G hzq1 => ?_)
  have k3 : f2 q1 = some (.inr (7, [.int 0, .int 0, .int 0, .int 0, .int 0, .int 0, .int 0, .int 0, .int 0])) := hus hf2
  refine lv_dup hx hb dX5_ofWicket_3 rfl ?_
  refine lv_iconst (v := 3) hx hb dX5_ofWicket_4 (by decide) ?_
  have z4 : q1 < _ := (G.1 _ _ k3).1.lt
  refine g_cV C0 G (g_runI C0 G (rest := [.ref q1]) (k_X5_init hfl 3 k3) hY_X5_init mm_X5_15 mi_X5_init rfl ⟨(Nat.le_of_ble_eq_true rfl), (Nat.le_of_ble_eq_true rfl)⟩ rfl hl.1 rfl (Nat.le_of_ble_eq_true rfl) dX5_ofWicket_5 ⟨(Nat.le_of_ble_eq_true rfl), (Nat.le_of_ble_eq_true rfl)⟩) (kx_no rfl) (fun u6 H locs hp5 G => ?_)
  obtain ⟨k7, fr8⟩ := hp5
  refine lv_astore (lv' := [(5, .ref q1), (0, .int wa), (1, .int ki), (2, .int ot), (3, .int ru), (4, .int cr)]) hx hb dX5_ofWicket_8 hl (by decide) rfl (fun ls hl => ?_)
  refine lv_aload hx hb dX5_ofWicket_10 (lv_at hl 0 rfl) ?_
  refine lv_iload_n hx hb dX5_ofWicket_12 rfl (lv_at hl 1 rfl) ?_
  refine g_put C0 G k7 rfl hiX5 tyX5 tyX5_ok nmX5 2 (by decide) mf_X5_31 rfl rfl rfl rfl (Nat.le_of_ble_eq_true rfl) dX5_ofWicket_13 (fun H locs f9 hf9 G => ?_)
  have k10 : f9 q1 = some (.inr (7, [.int 3, .int 0, .int wa, .int 0, .int 0, .int 0, .int 0, .int 0, .int 0])) := hus hf9
  refine lv_aload hx hb dX5_ofWicket_16 (lv_at hl 0 rfl) ?_
  refine lv_iload_n hx hb dX5_ofWicket_18 rfl (lv_at hl 2 rfl) ?_
  refine g_put C0 G k10 rfl hiX5 tyX5 tyX5_ok nmX5 3 (by decide) mf_X5_21 rfl rfl rfl rfl (Nat.le_of_ble_eq_true rfl) dX5_ofWicket_19 (fun H locs f11 hf11 G => ?_)
  have k12 : f11 q1 = some (.inr (7, [.int 3, .int 0, .int wa, .int ki, .int 0, .int 0, .int 0, .int 0, .int 0])) := hus hf11
  refine lv_aload hx hb dX5_ofWicket_22 (lv_at hl 0 rfl) ?_
  refine lv_iload_n hx hb dX5_ofWicket_24 rfl (lv_at hl 3 rfl) ?_
  refine g_put C0 G k12 rfl hiX5 tyX5 tyX5_ok nmX5 5 (by decide) mf_X5_34 rfl rfl (hZb hb_ot) (hFb hb_ot) (Nat.le_of_ble_eq_true rfl) dX5_ofWicket_25 (fun H locs f13 hf13 G => ?_)
  have k14 : f13 q1 = some (.inr (7, [.int 3, .int 0, .int wa, .int ki, .int 0, .int ot, .int 0, .int 0, .int 0])) := hus hf13
  refine lv_aload hx hb dX5_ofWicket_28 (lv_at hl 0 rfl) ?_
  refine lv_iload_n hx hb dX5_ofWicket_30 rfl (lv_at hl 4 rfl) ?_
  refine g_put C0 G k14 rfl hiX5 tyX5 tyX5_ok nmX5 4 (by decide) mf_X5_24 rfl rfl rfl rfl (Nat.le_of_ble_eq_true rfl) dX5_ofWicket_31 (fun H locs f15 hf15 G => ?_)
  have k16 : f15 q1 = some (.inr (7, [.int 3, .int 0, .int wa, .int ki, .int ru, .int ot, .int 0, .int 0, .int 0])) := hus hf15
  refine lv_aload hx hb dX5_ofWicket_34 (lv_at hl 0 rfl) ?_
  refine lv_iload hx hb dX5_ofWicket_36 (lv_at hl 5 rfl) ?_
  refine g_put C0 G k16 rfl hiX5 tyX5 tyX5_ok nmX5 7 (by decide) mf_X5_37 rfl rfl (hZb hb_cr) (hFb hb_cr) (Nat.le_of_ble_eq_true rfl) dX5_ofWicket_38 (fun H locs f17 hf17 G => ?_)
  have k18 : f17 q1 = some (.inr (7, [.int 3, .int 0, .int wa, .int ki, .int ru, .int ot, .int 0, .int cr, .int 0])) := hus hf17
  refine lv_aload hx hb dX5_ofWicket_41 (lv_at hl 0 rfl) ?_
  exact g_aret C0 G hr dX5_ofWicket_43 (Nat.le_of_ble_eq_true rfl) (Nat.le_of_ble_eq_true rfl) (by exact ⟨by omega, k18, (fun a9 e9 h7 h8 => by have h6 := (Gz.1 _ _ h8).1.lt; rw [hsz] at h6; exact hup hf17 h7 (hup hf15 h7 (hup hf13 h7 (hup hf11 h7 (hup hf9 h7 (fr8 _ _ h7 (hup hf2 h7 (h8))))))))⟩)
set_option maxRecDepth 100000 in
theorem k_X5_ofRetirement {l : Launch} (hfl : l.stackTraces = false) {D : va_G} {cy : Nat → ClassId} {f : Hf} {sz : Nat} (ot hu : Int32) (hb_ot : ot = 0 ∨ ot = 1) (hb_hu : hu = 0 ∨ hu = 1) : hMet l yX5_ofRetirement cX5_ofRetirement 3 (some (.object "WicketScorer$Step")) { frames := 2, cells := 1, slots := 9, locals := 33 } D (hTy cy) f sz [.int ot, .int hu] (hQr (fun a u => sz ≤ a ∧ u a = some (.inr (7, [.int 4, .int 0, .int 0, .int 0, .int 0, .int ot, .int 0, .int 0, .int hu])) ∧ hFr f u a) D f sz) hNo := by
  refine h_enter (by decide) hfl (Nat.le_of_ble_eq_true rfl) ?_
  intro p9 e9 s9 m9 b9 t9 c9 hsz C0 hr hnm G ls hl
  have hx := C0.1.1
  have hb := C0.1.2.1
  have Gz := G
  have hl : lv_has ls 3 [(0, .int ot), (1, .int hu)] := hl
  have zq1 := G.2.1
  refine g_new C0 G (ci := 7) (fs := [.int 0, .int 0, .int 0, .int 0, .int 0, .int 0, .int 0, .int 0, .int 0]) rfl hiX5 tyX5 tyX5_ok mk_X5_10 mn_X5 mz_X5 (fun j hj => by rcases (show j = 0 ∨ j = 1 ∨ j = 2 ∨ j = 3 ∨ j = 4 ∨ j = 5 ∨ j = 6 ∨ j = 7 ∨ j = 8 by omega) with rfl | rfl | rfl | rfl | rfl | rfl | rfl | rfl | rfl <;> rfl) (Nat.le_of_ble_eq_true rfl) (Nat.le_of_ble_eq_true rfl) dX5_ofRetirement_0 (fun q1 H f2 nq1 hf2 G hzq1 => ?_)
  have k3 : f2 q1 = some (.inr (7, [.int 0, .int 0, .int 0, .int 0, .int 0, .int 0, .int 0, .int 0, .int 0])) := hus hf2
  refine lv_dup hx hb dX5_ofRetirement_3 rfl ?_
  refine lv_iconst (v := 4) hx hb dX5_ofRetirement_4 (by decide) ?_
  have z4 : q1 < _ := (G.1 _ _ k3).1.lt
  refine g_cV C0 G (g_runI C0 G (rest := [.ref q1]) (k_X5_init hfl 4 k3) hY_X5_init mm_X5_15 mi_X5_init rfl ⟨(Nat.le_of_ble_eq_true rfl), (Nat.le_of_ble_eq_true rfl)⟩ rfl hl.1 rfl (Nat.le_of_ble_eq_true rfl) dX5_ofRetirement_5 ⟨(Nat.le_of_ble_eq_true rfl), (Nat.le_of_ble_eq_true rfl)⟩) (kx_no rfl) (fun u6 H locs hp5 G => ?_)
  obtain ⟨k7, fr8⟩ := hp5
  refine lv_astore_n (lv' := [(2, .ref q1), (0, .int ot), (1, .int hu)]) hx hb dX5_ofRetirement_8 rfl hl (by decide) rfl (fun ls hl => ?_)
  refine lv_aload_n hx hb dX5_ofRetirement_9 rfl (lv_at hl 0 rfl) ?_
  refine lv_iload_n hx hb dX5_ofRetirement_10 rfl (lv_at hl 1 rfl) ?_
  refine g_put C0 G k7 rfl hiX5 tyX5 tyX5_ok nmX5 5 (by decide) mf_X5_34 rfl rfl (hZb hb_ot) (hFb hb_ot) (Nat.le_of_ble_eq_true rfl) dX5_ofRetirement_11 (fun H locs f9 hf9 G => ?_)
  have k10 : f9 q1 = some (.inr (7, [.int 4, .int 0, .int 0, .int 0, .int 0, .int ot, .int 0, .int 0, .int 0])) := hus hf9
  refine lv_aload_n hx hb dX5_ofRetirement_14 rfl (lv_at hl 0 rfl) ?_
  refine lv_iload_n hx hb dX5_ofRetirement_15 rfl (lv_at hl 2 rfl) ?_
  refine g_put C0 G k10 rfl hiX5 tyX5 tyX5_ok nmX5 8 (by decide) mf_X5_40 rfl rfl (hZb hb_hu) (hFb hb_hu) (Nat.le_of_ble_eq_true rfl) dX5_ofRetirement_16 (fun H locs f11 hf11 G => ?_)
  have k12 : f11 q1 = some (.inr (7, [.int 4, .int 0, .int 0, .int 0, .int 0, .int ot, .int 0, .int 0, .int hu])) := hus hf11
  refine lv_aload_n hx hb dX5_ofRetirement_19 rfl (lv_at hl 0 rfl) ?_
  exact g_aret C0 G hr dX5_ofRetirement_20 (Nat.le_of_ble_eq_true rfl) (Nat.le_of_ble_eq_true rfl) (by exact ⟨by omega, k12, (fun a9 e9 h7 h8 => by have h6 := (Gz.1 _ _ h8).1.lt; rw [hsz] at h6; exact hup hf11 h7 (hup hf9 h7 (fr8 _ _ h7 (hup hf2 h7 (h8)))))⟩)
set_option maxRecDepth 100000 in
theorem k_X1_hasMatch {l : Launch} (hfl : l.stackTraces = false) {D : va_G} {cy : Nat → ClassId} {f : Hf} {sz : Nat} {lg n9 st9 en9 : Nat} {ov ie fi sc9 co un : Int32} (h_lg : f lg = some (.inr (3, [.ref n9, .ref st9, .ref en9, .int ov, .int ie, .int fi, .int sc9, .int co, .int un]))) : hMet l yX1_hasMatch cX1_hasMatch 1 (some .boolean) { frames := 0, cells := 0, slots := 0, locals := 0 } D (hTy cy) f sz [.ref lg] (hQi (fun r u => ((r = 1 ∧ 0 < ie) ∨ (r = 0 ∧ ¬ (0 < ie))) ∧ u = f) D f sz) hNo := by
  refine h_enter (by decide) hfl (Nat.le_of_ble_eq_true rfl) ?_
  intro p9 e9 s9 m9 b9 t9 c9 hsz C0 hr hnm G ls hl
  have hx := C0.1.1
  have hb := C0.1.2.1
  have hl : lv_has ls 1 [(0, .ref lg)] := hl
  refine lv_aload_n hx hb dX1_hasMatch_0 rfl (lv_at hl 0 rfl) ?_
  refine g_get C0 G h_lg rfl hiX1 4 (by decide) mf_X1_32 rfl dX1_hasMatch_1 ?_
  refine lv_if_le (tgt := 11) hx hb dX1_hasMatch_4 (by decide) (fun c1 => ?_) (fun c1 => ?_)
  · refine lv_iconst (v := 0) hx hb dX1_hasMatch_11 (by decide) ?_
    exact g_zret C0 G hr dX1_hasMatch_12 rfl (Nat.le_of_ble_eq_true rfl) (Nat.le_of_ble_eq_true rfl) (by refine ⟨?_, rfl⟩; first | (simp_all; done) | (refine Or.inl ⟨rfl, ?_⟩; first | (simp only [Int32.lt_iff_toInt_lt, Int32.le_iff_toInt_le, ← Int32.toInt_inj] at *; first | omega | (simp at *; omega)) | (simp_all; done)) | (refine Or.inr ⟨rfl, ?_⟩; first | (simp only [Int32.lt_iff_toInt_lt, Int32.le_iff_toInt_le, ← Int32.toInt_inj] at *; first | omega | (simp at *; omega)) | (simp_all; done)))
  · refine lv_iconst (v := 1) hx hb dX1_hasMatch_7 (by decide) ?_
    refine lv_goto (tgt := 12) hx hb dX1_hasMatch_8 (by decide) ?_
    exact g_zret C0 G hr dX1_hasMatch_12 rfl (Nat.le_of_ble_eq_true rfl) (Nat.le_of_ble_eq_true rfl) (by refine ⟨?_, rfl⟩; first | (simp_all; done) | (refine Or.inl ⟨rfl, ?_⟩; first | (simp only [Int32.lt_iff_toInt_lt, Int32.le_iff_toInt_le, ← Int32.toInt_inj] at *; first | omega | (simp at *; omega)) | (simp_all; done)) | (refine Or.inr ⟨rfl, ?_⟩; first | (simp only [Int32.lt_iff_toInt_lt, Int32.le_iff_toInt_le, ← Int32.toInt_inj] at *; first | omega | (simp at *; omega)) | (simp_all; done)))
set_option maxRecDepth 100000 in
theorem k_X2_hasBegun {l : Launch} (hfl : l.stackTraces = false) {D : va_G} {cy : Nat → ClassId} {f : Hf} {sz : Nat} {mt al : Nat} {ex ovr each first number : Int32} (inn : Int32) (h_m : f mt = some (.inr (4, [.ref al, .int ex, .int ovr, .int each, .int first, .int number]))) : hMet l yX2_hasBegun cX2_hasBegun 2 (some .boolean) { frames := 0, cells := 0, slots := 0, locals := 0 } D (hTy cy) f sz [.ref mt, .int inn] (hQi (fun r u => ((r = 1 ∧ ¬ ex = 0 ∧ 0 ≤ inn ∧ inn ≤ number) ∨ (r = 0 ∧ ¬ (¬ ex = 0 ∧ 0 ≤ inn ∧ inn ≤ number))) ∧ u = f) D f sz) hNo := by
  refine h_enter (by decide) hfl (Nat.le_of_ble_eq_true rfl) ?_
  intro p9 e9 s9 m9 b9 t9 c9 hsz C0 hr hnm G ls hl
  have hx := C0.1.1
  have hb := C0.1.2.1
  have hl : lv_has ls 2 [(0, .ref mt), (1, .int inn)] := hl
  refine lv_aload_n hx hb dX2_hasBegun_0 rfl (lv_at hl 0 rfl) ?_
  refine g_get C0 G h_m rfl hiX2 1 (by decide) mf_X2_17 rfl dX2_hasBegun_1 ?_
  refine lv_if_eq (tgt := 23) hx hb dX2_hasBegun_4 (by decide) (fun c1 => ?_) (fun c1 => ?_)
  · refine lv_iconst (v := 0) hx hb dX2_hasBegun_23 (by decide) ?_
    exact g_zret C0 G hr dX2_hasBegun_24 rfl (Nat.le_of_ble_eq_true rfl) (Nat.le_of_ble_eq_true rfl) (by refine ⟨?_, rfl⟩; first | (simp_all; done) | (refine Or.inl ⟨rfl, ?_⟩; first | (simp only [Int32.lt_iff_toInt_lt, Int32.le_iff_toInt_le, ← Int32.toInt_inj] at *; first | omega | (simp at *; omega)) | (simp_all; done)) | (refine Or.inr ⟨rfl, ?_⟩; first | (simp only [Int32.lt_iff_toInt_lt, Int32.le_iff_toInt_le, ← Int32.toInt_inj] at *; first | omega | (simp at *; omega)) | (simp_all; done)))
  · refine lv_iload_n hx hb dX2_hasBegun_7 rfl (lv_at hl 1 rfl) ?_
    refine lv_if_lt (tgt := 23) hx hb dX2_hasBegun_8 (by decide) (fun c2 => ?_) (fun c2 => ?_)
    · refine lv_iconst (v := 0) hx hb dX2_hasBegun_23 (by decide) ?_
      exact g_zret C0 G hr dX2_hasBegun_24 rfl (Nat.le_of_ble_eq_true rfl) (Nat.le_of_ble_eq_true rfl) (by refine ⟨?_, rfl⟩; first | (simp_all; done) | (refine Or.inl ⟨rfl, ?_⟩; first | (simp only [Int32.lt_iff_toInt_lt, Int32.le_iff_toInt_le, ← Int32.toInt_inj] at *; first | omega | (simp at *; omega)) | (simp_all; done)) | (refine Or.inr ⟨rfl, ?_⟩; first | (simp only [Int32.lt_iff_toInt_lt, Int32.le_iff_toInt_le, ← Int32.toInt_inj] at *; first | omega | (simp at *; omega)) | (simp_all; done)))
    · refine lv_iload_n hx hb dX2_hasBegun_11 rfl (lv_at hl 1 rfl) ?_
      refine lv_aload_n hx hb dX2_hasBegun_12 rfl (lv_at hl 0 rfl) ?_
      refine g_get C0 G h_m rfl hiX2 5 (by decide) mf_X2_31 rfl dX2_hasBegun_13 ?_
      refine lv_icmp_gt (tgt := 23) hx hb dX2_hasBegun_16 (by decide) (fun c3 => ?_) (fun c3 => ?_)
      · refine lv_iconst (v := 0) hx hb dX2_hasBegun_23 (by decide) ?_
        exact g_zret C0 G hr dX2_hasBegun_24 rfl (Nat.le_of_ble_eq_true rfl) (Nat.le_of_ble_eq_true rfl) (by refine ⟨?_, rfl⟩; first | (simp_all; done) | (refine Or.inl ⟨rfl, ?_⟩; first | (simp only [Int32.lt_iff_toInt_lt, Int32.le_iff_toInt_le, ← Int32.toInt_inj] at *; first | omega | (simp at *; omega)) | (simp_all; done)) | (refine Or.inr ⟨rfl, ?_⟩; first | (simp only [Int32.lt_iff_toInt_lt, Int32.le_iff_toInt_le, ← Int32.toInt_inj] at *; first | omega | (simp at *; omega)) | (simp_all; done)))
      · refine lv_iconst (v := 1) hx hb dX2_hasBegun_19 (by decide) ?_
        refine lv_goto (tgt := 24) hx hb dX2_hasBegun_20 (by decide) ?_
        exact g_zret C0 G hr dX2_hasBegun_24 rfl (Nat.le_of_ble_eq_true rfl) (Nat.le_of_ble_eq_true rfl) (by refine ⟨?_, rfl⟩; first | (simp_all; done) | (refine Or.inl ⟨rfl, ?_⟩; first | (simp only [Int32.lt_iff_toInt_lt, Int32.le_iff_toInt_le, ← Int32.toInt_inj] at *; first | omega | (simp at *; omega)) | (simp_all; done)) | (refine Or.inr ⟨rfl, ?_⟩; first | (simp only [Int32.lt_iff_toInt_lt, Int32.le_iff_toInt_le, ← Int32.toInt_inj] at *; first | omega | (simp at *; omega)) | (simp_all; done)))
set_option maxRecDepth 100000 in
theorem k_X2_refusal0 {l : Launch} (hfl : l.stackTraces = false) {D : va_G} {cy : Nat → ClassId} {f : Hf} {sz : Nat} {mt al step : Nat} {ovr each first number : Int32} (h_m : f mt = some (.inr (4, [.ref al, .int 0, .int ovr, .int each, .int first, .int number]))) : hMet l yX2_refusal cX2_refusal 3 (some .int) { frames := 0, cells := 0, slots := 0, locals := 0 } D (hTy cy) f sz [.ref mt, .ref step] (hQi (fun r u => r = 1 ∧ u = f) D f sz) hNo := by
  refine h_enter (by decide) hfl (Nat.le_of_ble_eq_true rfl) ?_
  intro p9 e9 s9 m9 b9 t9 c9 hsz C0 hr hnm G ls hl
  have hx := C0.1.1
  have hb := C0.1.2.1
  have hl : lv_has ls 3 [(0, .ref mt), (1, .ref step)] := hl
  refine lv_aload_n hx hb dX2_refusal_0 rfl (lv_at hl 0 rfl) ?_
  refine g_get C0 G h_m rfl hiX2 1 (by decide) mf_X2_17 rfl dX2_refusal_1 ?_
  refine lv_if_eq (tgt := 14) hx hb dX2_refusal_4 (by decide) (fun _ => ?_) (fun c1 => absurd (by decide) c1)
  refine lv_iconst (v := 1) hx hb dX2_refusal_14 (by decide) ?_
  exact g_iret C0 G hr dX2_refusal_15 (Nat.le_of_ble_eq_true rfl) (Nat.le_of_ble_eq_true rfl) (by exact ⟨rfl, rfl⟩)
set_option maxRecDepth 100000 in
theorem k_X2_outcome0 {l : Launch} (hfl : l.stackTraces = false) {D : va_G} {cy : Nat → ClassId} {f : Hf} {sz : Nat} {mt al : Nat} {ovr each first number : Int32} (h_m : f mt = some (.inr (4, [.ref al, .int 0, .int ovr, .int each, .int first, .int number]))) : hMet l yX2_outcome cX2_outcome 2 (some .int) { frames := 0, cells := 0, slots := 0, locals := 0 } D (hTy cy) f sz [.ref mt] (hQi (fun r u => r = 0 ∧ u = f) D f sz) hNo := by
  refine h_enter (by decide) hfl (Nat.le_of_ble_eq_true rfl) ?_
  intro p9 e9 s9 m9 b9 t9 c9 hsz C0 hr hnm G ls hl
  have hx := C0.1.1
  have hb := C0.1.2.1
  have hl : lv_has ls 2 [(0, .ref mt)] := hl
  refine lv_aload_n hx hb dX2_outcome_0 rfl (lv_at hl 0 rfl) ?_
  refine g_get C0 G h_m rfl hiX2 1 (by decide) mf_X2_17 rfl dX2_outcome_1 ?_
  refine lv_if_eq (tgt := 14) hx hb dX2_outcome_4 (by decide) (fun _ => ?_) (fun c1 => absurd (by decide) c1)
  refine lv_iconst (v := 0) hx hb dX2_outcome_14 (by decide) ?_
  exact g_iret C0 G hr dX2_outcome_15 (Nat.le_of_ble_eq_true rfl) (Nat.le_of_ble_eq_true rfl) (by exact ⟨rfl, rfl⟩)
set_option maxRecDepth 100000 in
theorem k_X8_carryOut0 {l : Launch} (hfl : l.stackTraces = false) {D : va_G} {cy : Nat → ClassId} {f : Hf} {sz : Nat} {sc m0 m1 lg sv tx r0 r1 : Nat} {ea ra kr : Int32} {al : Nat} {step : Nat} (h_sc : f sc = some (.inr (10, [.ref m0, .ref m1, .ref lg, .ref sv, .ref tx, .ref r0, .ref r1, .int ea, .int ra, .int kr]))) (h_m0 : f m0 = some (.inr (4, [.ref al, .int 0, .int 0, .int 0, .int 0, .int 0]))) : hMet l yX8_carryOut cX8_carryOut 3 (some .int) { frames := 6, cells := 1, slots := 6, locals := 82 } D (hTy cy) f sz [.ref sc, .ref step] (hQi (fun r u => False) D f sz) (fun E u => E = "java/lang/IllegalStateException" ∧ u = va_up f sc (some (.inr (10, [.ref m0, .ref m1, .ref lg, .ref sv, .ref tx, .ref r0, .ref r1, .int ea, .int ra, .int 1])))) := by
  refine h_enter (by decide) hfl (Nat.le_of_ble_eq_true rfl) ?_
  intro p9 e9 s9 m9 b9 t9 c9 hsz C0 hr hnm G ls hl
  have hx := C0.1.1
  have hb := C0.1.2.1
  have Gz := G
  have hl : lv_has ls 3 [(0, .ref sc), (1, .ref step)] := hl
  refine lv_aload_n hx hb dX8_carryOut_0 rfl (lv_at hl 0 rfl) ?_
  refine g_get C0 G h_sc rfl hiX8 0 (by decide) mf_X8_10 rfl dX8_carryOut_1 ?_
  refine lv_aload_n hx hb dX8_carryOut_4 rfl (lv_at hl 1 rfl) ?_
  refine g_cI C0 G (g_runV C0 G (rest := []) (k_X2_refusal0 hfl h_m0) h_m0 rfl hY_X2_refusal mm_X8_128 mi_X2_refusal ml_X2_refusal ⟨(Nat.le_of_ble_eq_true rfl), (Nat.le_of_ble_eq_true rfl)⟩ rfl hl.1 rfl (Nat.le_of_ble_eq_true rfl) dX8_carryOut_5 ⟨(Nat.le_of_ble_eq_true rfl), (Nat.le_of_ble_eq_true rfl)⟩) (kx_no rfl) (fun r3 u2 H locs hp1 G => ?_)
  obtain ⟨rfl, eu2⟩ := hp1
  rw [eu2] at G
  refine lv_istore_n (lv' := [(2, .int 1), (0, .ref sc), (1, .ref step)]) hx hb dX8_carryOut_8 rfl hl (by decide) rfl (fun ls hl => ?_)
  refine lv_iload_n hx hb dX8_carryOut_9 rfl (lv_at hl 0 rfl) ?_
  refine lv_if_eq (tgt := 28) hx hb dX8_carryOut_10 (by decide) (fun c4 => absurd c4 (by decide)) (fun _ => ?_)
  refine lv_aload_n hx hb dX8_carryOut_13 rfl (lv_at hl 1 rfl) ?_
  refine lv_iload_n hx hb dX8_carryOut_14 rfl (lv_at hl 0 rfl) ?_
  refine g_put C0 G h_sc rfl hiX8 tyX8 tyX8_ok nmX8 9 (by decide) mf_X8_53 rfl rfl rfl rfl (Nat.le_of_ble_eq_true rfl) dX8_carryOut_15 (fun H locs f5 hf5 G => ?_)
  have k6 : f5 sc = some (.inr (10, [.ref m0, .ref m1, .ref lg, .ref sv, .ref tx, .ref r0, .ref r1, .int ea, .int ra, .int 1])) := hus hf5
  exact g_throw C0 G (X := "java/lang/IllegalStateException") (by decide) mk_X8_131 mz_java_lang_IllegalStateException (is := 133) (text := "the match refuses this") (by decide) hat_135 hl.1 dX8_carryOut_18 dX8_carryOut_21 dX8_carryOut_22 dX8_carryOut_24 dX8_carryOut_27 ⟨(Nat.le_of_ble_eq_true rfl), (Nat.le_of_ble_eq_true rfl)⟩ ⟨(Nat.le_of_ble_eq_true rfl), (Nat.le_of_ble_eq_true rfl)⟩ (Nat.le_of_ble_eq_true rfl) (Nat.le_of_ble_eq_true rfl) (by exact ⟨rfl, hf5⟩)
set_option maxRecDepth 100000 in
theorem k_X8_bowl {l : Launch} (hfl : l.stackTraces = false) {D : va_G} {cy : Nat → ClassId} {f : Hf} {sz : Nat} {sc m0 m1 lg sv tx r0 r1 : Nat} {ea ra kr : Int32} {al : Nat} (pl : Int32) (h_sc : f sc = some (.inr (10, [.ref m0, .ref m1, .ref lg, .ref sv, .ref tx, .ref r0, .ref r1, .int ea, .int ra, .int kr]))) (h_m0 : f m0 = some (.inr (4, [.ref al, .int 0, .int 0, .int 0, .int 0, .int 0]))) : hMet l yX8_bowl cX8_bowl 2 (some .int) { frames := 7, cells := 2, slots := 15, locals := 104 } D (hTy cy) f sz [.ref sc, .int pl] (hQi (fun r u => False) D f sz) (fun E u => ((E = "java/lang/IndexOutOfBoundsException" ∧ ¬ (0 ≤ pl ∧ pl ≤ 10)) ∨ (E = "java/lang/IllegalStateException" ∧ (0 ≤ pl ∧ pl ≤ 10))) ∧ hFr f u sc) := by
  refine h_enter (by decide) hfl (Nat.le_of_ble_eq_true rfl) ?_
  intro p9 e9 s9 m9 b9 t9 c9 hsz C0 hr hnm G ls hl
  have hx := C0.1.1
  have hb := C0.1.2.1
  have Gz := G
  have hl : lv_has ls 2 [(0, .ref sc), (1, .int pl)] := hl
  refine lv_iload_n hx hb dX8_bowl_0 rfl (lv_at hl 1 rfl) ?_
  refine g_cI C0 G (g_runS C0 G (rest := []) (k_X8_isPlayer hfl pl) hY_X8_isPlayer mm_X8_81 ms_X8_isPlayer ⟨(Nat.le_of_ble_eq_true rfl), (Nat.le_of_ble_eq_true rfl)⟩ rfl hl.1 rfl (Nat.le_of_ble_eq_true rfl) dX8_bowl_1 ⟨(Nat.le_of_ble_eq_true rfl), (Nat.le_of_ble_eq_true rfl)⟩) (kx_no rfl) (fun r3 u2 H locs hp1 G => ?_)
  obtain ⟨b4, eu2⟩ := hp1
  rw [eu2] at G
  rcases b4 with ⟨rfl, c5⟩ | ⟨rfl, c5⟩
  · refine lv_if_ne (tgt := 17) hx hb dX8_bowl_4 (by decide) (fun _ => ?_) (fun c6 => absurd c6 (by decide))
    refine lv_aload_n hx hb dX8_bowl_17 rfl (lv_at hl 0 rfl) ?_
    refine lv_iconst (v := 1) hx hb dX8_bowl_18 (by decide) ?_
    refine lv_iload_n hx hb dX8_bowl_19 rfl (lv_at hl 1 rfl) ?_
    have z7 : sc < _ := (G.1 _ _ h_sc).1.lt
    have z8 : m0 < _ := (G.1 _ _ h_m0).1.lt
    have z9 := G.2.1
    refine g_cR C0 G (g_runS C0 G (rest := [.ref sc]) (k_X5_ofNumber hfl 1 pl) hY_X5_ofNumber mm_X8_92 ms_X5_ofNumber ⟨(Nat.le_of_ble_eq_true rfl), (Nat.le_of_ble_eq_true rfl)⟩ rfl hl.1 rfl (Nat.le_of_ble_eq_true rfl) dX8_bowl_20 ⟨(Nat.le_of_ble_eq_true rfl), (Nat.le_of_ble_eq_true rfl)⟩) (kx_no rfl) (fun a12 u11 H locs hp10 G => ?_)
    obtain ⟨o13, k14, fr15⟩ := hp10
    have k16 : u11 sc = some (.inr (10, [.ref m0, .ref m1, .ref lg, .ref sv, .ref tx, .ref r0, .ref r1, .int ea, .int ra, .int kr])) := fr15 _ _ (by omega) h_sc
    have k17 : u11 m0 = some (.inr (4, [.ref al, .int 0, .int 0, .int 0, .int 0, .int 0])) := fr15 _ _ (by omega) h_m0
    have fz18 : hFr f u11 sc := (fun a9 e9 h7 h8 => by have h6 := (Gz.1 _ _ h8).1.lt; rw [hsz] at h6; exact fr15 _ _ (Nat.ne_of_lt (Nat.lt_of_lt_of_le h6 (by omega))) (h8))
    exact g_cI C0 G (g_runV C0 G (rest := []) (k_X8_carryOut0 hfl k16 k17) k16 rfl hY_X8_carryOut mm_X8_96 mi_X8_carryOut ml_X8_carryOut ⟨(Nat.le_of_ble_eq_true rfl), (Nat.le_of_ble_eq_true rfl)⟩ rfl hl.1 rfl (Nat.le_of_ble_eq_true rfl) dX8_bowl_23 ⟨(Nat.le_of_ble_eq_true rfl), (Nat.le_of_ble_eq_true rfl)⟩) (kx_out C0 (Nat.le_of_ble_eq_true rfl) (Nat.le_of_ble_eq_true rfl) (fun E u h => by obtain ⟨h1, h2⟩ := h; exact ⟨Or.inr ⟨h1, (by first | (simp_all; done) | (simp only [Int32.lt_iff_toInt_lt, Int32.le_iff_toInt_le] at *; omega))⟩, (by rw [h2]; intro a9 e9 h7 h8; rw [va_up_ne _ _ h7]; exact fz18 _ _ h7 h8)⟩)) (fun _ _ _ _ h _ => h.elim)
  · refine lv_if_ne (tgt := 17) hx hb dX8_bowl_4 (by decide) (fun c19 => absurd (by decide) c19) (fun _ => ?_)
    exact g_throw C0 G (X := "java/lang/IndexOutOfBoundsException") (by decide) mk_X8_85 mz_java_lang_IndexOutOfBoundsException (is := 87) (text := "no such player") (by decide) hat_89 hl.1 dX8_bowl_7 dX8_bowl_10 dX8_bowl_11 dX8_bowl_13 dX8_bowl_16 ⟨(Nat.le_of_ble_eq_true rfl), (Nat.le_of_ble_eq_true rfl)⟩ ⟨(Nat.le_of_ble_eq_true rfl), (Nat.le_of_ble_eq_true rfl)⟩ (Nat.le_of_ble_eq_true rfl) (Nat.le_of_ble_eq_true rfl) (by exact ⟨Or.inl ⟨rfl, (by first | (simp_all; done) | (simp only [Int32.lt_iff_toInt_lt, Int32.le_iff_toInt_le] at *; omega))⟩, (fun a9 e9 h7 h8 => by have h6 := (Gz.1 _ _ h8).1.lt; rw [hsz] at h6; exact h8)⟩)
set_option maxRecDepth 100000 in
theorem k_X8_choose {l : Launch} (hfl : l.stackTraces = false) {D : va_G} {cy : Nat → ClassId} {f : Hf} {sz : Nat} {sc m0 m1 lg sv tx r0 r1 : Nat} {ea ra kr : Int32} {al : Nat} (pl : Int32) (h_sc : f sc = some (.inr (10, [.ref m0, .ref m1, .ref lg, .ref sv, .ref tx, .ref r0, .ref r1, .int ea, .int ra, .int kr]))) (h_m0 : f m0 = some (.inr (4, [.ref al, .int 0, .int 0, .int 0, .int 0, .int 0]))) : hMet l yX8_choose cX8_choose 2 (some .int) { frames := 7, cells := 2, slots := 15, locals := 104 } D (hTy cy) f sz [.ref sc, .int pl] (hQi (fun r u => False) D f sz) (fun E u => ((E = "java/lang/IndexOutOfBoundsException" ∧ ¬ (0 ≤ pl ∧ pl ≤ 10)) ∨ (E = "java/lang/IllegalStateException" ∧ (0 ≤ pl ∧ pl ≤ 10))) ∧ hFr f u sc) := by
  refine h_enter (by decide) hfl (Nat.le_of_ble_eq_true rfl) ?_
  intro p9 e9 s9 m9 b9 t9 c9 hsz C0 hr hnm G ls hl
  have hx := C0.1.1
  have hb := C0.1.2.1
  have Gz := G
  have hl : lv_has ls 2 [(0, .ref sc), (1, .int pl)] := hl
  refine lv_iload_n hx hb dX8_choose_0 rfl (lv_at hl 1 rfl) ?_
  refine g_cI C0 G (g_runS C0 G (rest := []) (k_X8_isPlayer hfl pl) hY_X8_isPlayer mm_X8_81 ms_X8_isPlayer ⟨(Nat.le_of_ble_eq_true rfl), (Nat.le_of_ble_eq_true rfl)⟩ rfl hl.1 rfl (Nat.le_of_ble_eq_true rfl) dX8_choose_1 ⟨(Nat.le_of_ble_eq_true rfl), (Nat.le_of_ble_eq_true rfl)⟩) (kx_no rfl) (fun r3 u2 H locs hp1 G => ?_)
  obtain ⟨b4, eu2⟩ := hp1
  rw [eu2] at G
  rcases b4 with ⟨rfl, c5⟩ | ⟨rfl, c5⟩
  · refine lv_if_ne (tgt := 17) hx hb dX8_choose_4 (by decide) (fun _ => ?_) (fun c6 => absurd c6 (by decide))
    refine lv_aload_n hx hb dX8_choose_17 rfl (lv_at hl 0 rfl) ?_
    refine lv_iconst (v := 5) hx hb dX8_choose_18 (by decide) ?_
    refine lv_iload_n hx hb dX8_choose_19 rfl (lv_at hl 1 rfl) ?_
    have z7 : sc < _ := (G.1 _ _ h_sc).1.lt
    have z8 : m0 < _ := (G.1 _ _ h_m0).1.lt
    have z9 := G.2.1
    refine g_cR C0 G (g_runS C0 G (rest := [.ref sc]) (k_X5_ofNumber hfl 5 pl) hY_X5_ofNumber mm_X8_92 ms_X5_ofNumber ⟨(Nat.le_of_ble_eq_true rfl), (Nat.le_of_ble_eq_true rfl)⟩ rfl hl.1 rfl (Nat.le_of_ble_eq_true rfl) dX8_choose_20 ⟨(Nat.le_of_ble_eq_true rfl), (Nat.le_of_ble_eq_true rfl)⟩) (kx_no rfl) (fun a12 u11 H locs hp10 G => ?_)
    obtain ⟨o13, k14, fr15⟩ := hp10
    have k16 : u11 sc = some (.inr (10, [.ref m0, .ref m1, .ref lg, .ref sv, .ref tx, .ref r0, .ref r1, .int ea, .int ra, .int kr])) := fr15 _ _ (by omega) h_sc
    have k17 : u11 m0 = some (.inr (4, [.ref al, .int 0, .int 0, .int 0, .int 0, .int 0])) := fr15 _ _ (by omega) h_m0
    have fz18 : hFr f u11 sc := (fun a9 e9 h7 h8 => by have h6 := (Gz.1 _ _ h8).1.lt; rw [hsz] at h6; exact fr15 _ _ (Nat.ne_of_lt (Nat.lt_of_lt_of_le h6 (by omega))) (h8))
    exact g_cI C0 G (g_runV C0 G (rest := []) (k_X8_carryOut0 hfl k16 k17) k16 rfl hY_X8_carryOut mm_X8_96 mi_X8_carryOut ml_X8_carryOut ⟨(Nat.le_of_ble_eq_true rfl), (Nat.le_of_ble_eq_true rfl)⟩ rfl hl.1 rfl (Nat.le_of_ble_eq_true rfl) dX8_choose_23 ⟨(Nat.le_of_ble_eq_true rfl), (Nat.le_of_ble_eq_true rfl)⟩) (kx_out C0 (Nat.le_of_ble_eq_true rfl) (Nat.le_of_ble_eq_true rfl) (fun E u h => by obtain ⟨h1, h2⟩ := h; exact ⟨Or.inr ⟨h1, (by first | (simp_all; done) | (simp only [Int32.lt_iff_toInt_lt, Int32.le_iff_toInt_le] at *; omega))⟩, (by rw [h2]; intro a9 e9 h7 h8; rw [va_up_ne _ _ h7]; exact fz18 _ _ h7 h8)⟩)) (fun _ _ _ _ h _ => h.elim)
  · refine lv_if_ne (tgt := 17) hx hb dX8_choose_4 (by decide) (fun c19 => absurd (by decide) c19) (fun _ => ?_)
    exact g_throw C0 G (X := "java/lang/IndexOutOfBoundsException") (by decide) mk_X8_85 mz_java_lang_IndexOutOfBoundsException (is := 87) (text := "no such player") (by decide) hat_89 hl.1 dX8_choose_7 dX8_choose_10 dX8_choose_11 dX8_choose_13 dX8_choose_16 ⟨(Nat.le_of_ble_eq_true rfl), (Nat.le_of_ble_eq_true rfl)⟩ ⟨(Nat.le_of_ble_eq_true rfl), (Nat.le_of_ble_eq_true rfl)⟩ (Nat.le_of_ble_eq_true rfl) (Nat.le_of_ble_eq_true rfl) (by exact ⟨Or.inl ⟨rfl, (by first | (simp_all; done) | (simp only [Int32.lt_iff_toInt_lt, Int32.le_iff_toInt_le] at *; omega))⟩, (fun a9 e9 h7 h8 => by have h6 := (Gz.1 _ _ h8).1.lt; rw [hsz] at h6; exact h8)⟩)
set_option maxRecDepth 100000 in
theorem k_X8_declare {l : Launch} (hfl : l.stackTraces = false) {D : va_G} {cy : Nat → ClassId} {f : Hf} {sz : Nat} {sc m0 m1 lg sv tx r0 r1 : Nat} {ea ra kr : Int32} {al : Nat} (h_sc : f sc = some (.inr (10, [.ref m0, .ref m1, .ref lg, .ref sv, .ref tx, .ref r0, .ref r1, .int ea, .int ra, .int kr]))) (h_m0 : f m0 = some (.inr (4, [.ref al, .int 0, .int 0, .int 0, .int 0, .int 0]))) : hMet l yX8_declare cX8_declare 1 (some .int) { frames := 7, cells := 2, slots := 15, locals := 104 } D (hTy cy) f sz [.ref sc] (hQi (fun r u => False) D f sz) (fun E u => E = "java/lang/IllegalStateException" ∧ hFr f u sc) := by
  refine h_enter (by decide) hfl (Nat.le_of_ble_eq_true rfl) ?_
  intro p9 e9 s9 m9 b9 t9 c9 hsz C0 hr hnm G ls hl
  have hx := C0.1.1
  have hb := C0.1.2.1
  have Gz := G
  have hl : lv_has ls 1 [(0, .ref sc)] := hl
  refine lv_aload_n hx hb dX8_declare_0 rfl (lv_at hl 0 rfl) ?_
  refine lv_bipush (v := 6) hx hb dX8_declare_1 (by decide) ?_
  refine lv_iconst (v := 0) hx hb dX8_declare_3 (by decide) ?_
  have z1 : sc < _ := (G.1 _ _ h_sc).1.lt
  have z2 : m0 < _ := (G.1 _ _ h_m0).1.lt
  have z3 := G.2.1
  refine g_cR C0 G (g_runS C0 G (rest := [.ref sc]) (k_X5_ofNumber hfl 6 0) hY_X5_ofNumber mm_X8_92 ms_X5_ofNumber ⟨(Nat.le_of_ble_eq_true rfl), (Nat.le_of_ble_eq_true rfl)⟩ rfl hl.1 rfl (Nat.le_of_ble_eq_true rfl) dX8_declare_4 ⟨(Nat.le_of_ble_eq_true rfl), (Nat.le_of_ble_eq_true rfl)⟩) (kx_no rfl) (fun a6 u5 H locs hp4 G => ?_)
  obtain ⟨o7, k8, fr9⟩ := hp4
  have k10 : u5 sc = some (.inr (10, [.ref m0, .ref m1, .ref lg, .ref sv, .ref tx, .ref r0, .ref r1, .int ea, .int ra, .int kr])) := fr9 _ _ (by omega) h_sc
  have k11 : u5 m0 = some (.inr (4, [.ref al, .int 0, .int 0, .int 0, .int 0, .int 0])) := fr9 _ _ (by omega) h_m0
  have fz12 : hFr f u5 sc := (fun a9 e9 h7 h8 => by have h6 := (Gz.1 _ _ h8).1.lt; rw [hsz] at h6; exact fr9 _ _ (Nat.ne_of_lt (Nat.lt_of_lt_of_le h6 (by omega))) (h8))
  exact g_cI C0 G (g_runV C0 G (rest := []) (k_X8_carryOut0 hfl k10 k11) k10 rfl hY_X8_carryOut mm_X8_96 mi_X8_carryOut ml_X8_carryOut ⟨(Nat.le_of_ble_eq_true rfl), (Nat.le_of_ble_eq_true rfl)⟩ rfl hl.1 rfl (Nat.le_of_ble_eq_true rfl) dX8_declare_7 ⟨(Nat.le_of_ble_eq_true rfl), (Nat.le_of_ble_eq_true rfl)⟩) (kx_out C0 (Nat.le_of_ble_eq_true rfl) (Nat.le_of_ble_eq_true rfl) (fun E u h => by obtain ⟨h1, h2⟩ := h; exact ⟨h1, (by rw [h2]; intro a9 e9 h7 h8; rw [va_up_ne _ _ h7]; exact fz12 _ _ h7 h8)⟩)) (fun _ _ _ _ h _ => h.elim)
set_option maxRecDepth 100000 in
theorem k_X8_loseOvers {l : Launch} (hfl : l.stackTraces = false) {D : va_G} {cy : Nat → ClassId} {f : Hf} {sz : Nat} {sc m0 m1 lg sv tx r0 r1 : Nat} {ea ra kr : Int32} {al : Nat} (ov : Int32) (h_sc : f sc = some (.inr (10, [.ref m0, .ref m1, .ref lg, .ref sv, .ref tx, .ref r0, .ref r1, .int ea, .int ra, .int kr]))) (h_m0 : f m0 = some (.inr (4, [.ref al, .int 0, .int 0, .int 0, .int 0, .int 0]))) : hMet l yX8_loseOvers cX8_loseOvers 2 (some .int) { frames := 7, cells := 2, slots := 15, locals := 104 } D (hTy cy) f sz [.ref sc, .int ov] (hQi (fun r u => False) D f sz) (fun E u => ((E = "java/lang/IllegalArgumentException" ∧ ¬ (1 ≤ ov ∧ ov ≤ 19)) ∨ (E = "java/lang/IllegalStateException" ∧ (1 ≤ ov ∧ ov ≤ 19))) ∧ hFr f u sc) := by
  refine h_enter (by decide) hfl (Nat.le_of_ble_eq_true rfl) ?_
  intro p9 e9 s9 m9 b9 t9 c9 hsz C0 hr hnm G ls hl
  have hx := C0.1.1
  have hb := C0.1.2.1
  have Gz := G
  have hl : lv_has ls 2 [(0, .ref sc), (1, .int ov)] := hl
  refine lv_iload_n hx hb dX8_loseOvers_0 rfl (lv_at hl 1 rfl) ?_
  refine lv_iconst (v := 1) hx hb dX8_loseOvers_1 (by decide) ?_
  refine lv_bipush (v := 19) hx hb dX8_loseOvers_2 (by decide) ?_
  refine g_cI C0 G (g_runS C0 G (rest := []) (k_X8_isWithin hfl ov 1 19) hY_X8_isWithin mm_X8_56 ms_X8_isWithin ⟨(Nat.le_of_ble_eq_true rfl), (Nat.le_of_ble_eq_true rfl)⟩ rfl hl.1 rfl (Nat.le_of_ble_eq_true rfl) dX8_loseOvers_4 ⟨(Nat.le_of_ble_eq_true rfl), (Nat.le_of_ble_eq_true rfl)⟩) (kx_no rfl) (fun r3 u2 H locs hp1 G => ?_)
  obtain ⟨b4, eu2⟩ := hp1
  rw [eu2] at G
  rcases b4 with ⟨rfl, c5⟩ | ⟨rfl, c5⟩
  · refine lv_if_ne (tgt := 20) hx hb dX8_loseOvers_7 (by decide) (fun _ => ?_) (fun c6 => absurd c6 (by decide))
    refine lv_aload_n hx hb dX8_loseOvers_20 rfl (lv_at hl 0 rfl) ?_
    refine lv_bipush (v := 7) hx hb dX8_loseOvers_21 (by decide) ?_
    refine lv_iload_n hx hb dX8_loseOvers_23 rfl (lv_at hl 1 rfl) ?_
    have z7 : sc < _ := (G.1 _ _ h_sc).1.lt
    have z8 : m0 < _ := (G.1 _ _ h_m0).1.lt
    have z9 := G.2.1
    refine g_cR C0 G (g_runS C0 G (rest := [.ref sc]) (k_X5_ofNumber hfl 7 ov) hY_X5_ofNumber mm_X8_92 ms_X5_ofNumber ⟨(Nat.le_of_ble_eq_true rfl), (Nat.le_of_ble_eq_true rfl)⟩ rfl hl.1 rfl (Nat.le_of_ble_eq_true rfl) dX8_loseOvers_24 ⟨(Nat.le_of_ble_eq_true rfl), (Nat.le_of_ble_eq_true rfl)⟩) (kx_no rfl) (fun a12 u11 H locs hp10 G => ?_)
    obtain ⟨o13, k14, fr15⟩ := hp10
    have k16 : u11 sc = some (.inr (10, [.ref m0, .ref m1, .ref lg, .ref sv, .ref tx, .ref r0, .ref r1, .int ea, .int ra, .int kr])) := fr15 _ _ (by omega) h_sc
    have k17 : u11 m0 = some (.inr (4, [.ref al, .int 0, .int 0, .int 0, .int 0, .int 0])) := fr15 _ _ (by omega) h_m0
    have fz18 : hFr f u11 sc := (fun a9 e9 h7 h8 => by have h6 := (Gz.1 _ _ h8).1.lt; rw [hsz] at h6; exact fr15 _ _ (Nat.ne_of_lt (Nat.lt_of_lt_of_le h6 (by omega))) (h8))
    exact g_cI C0 G (g_runV C0 G (rest := []) (k_X8_carryOut0 hfl k16 k17) k16 rfl hY_X8_carryOut mm_X8_96 mi_X8_carryOut ml_X8_carryOut ⟨(Nat.le_of_ble_eq_true rfl), (Nat.le_of_ble_eq_true rfl)⟩ rfl hl.1 rfl (Nat.le_of_ble_eq_true rfl) dX8_loseOvers_27 ⟨(Nat.le_of_ble_eq_true rfl), (Nat.le_of_ble_eq_true rfl)⟩) (kx_out C0 (Nat.le_of_ble_eq_true rfl) (Nat.le_of_ble_eq_true rfl) (fun E u h => by obtain ⟨h1, h2⟩ := h; exact ⟨Or.inr ⟨h1, (by first | (simp_all; done) | (simp only [Int32.lt_iff_toInt_lt, Int32.le_iff_toInt_le] at *; omega))⟩, (by rw [h2]; intro a9 e9 h7 h8; rw [va_up_ne _ _ h7]; exact fz18 _ _ h7 h8)⟩)) (fun _ _ _ _ h _ => h.elim)
  · refine lv_if_ne (tgt := 20) hx hb dX8_loseOvers_7 (by decide) (fun c19 => absurd (by decide) c19) (fun _ => ?_)
    exact g_throw C0 G (X := "java/lang/IllegalArgumentException") (by decide) mk_X8_60 mz_java_lang_IllegalArgumentException (is := 126) (text := "number of overs out of range") (by decide) hat_64 hl.1 dX8_loseOvers_10 dX8_loseOvers_13 dX8_loseOvers_14 dX8_loseOvers_16 dX8_loseOvers_19 ⟨(Nat.le_of_ble_eq_true rfl), (Nat.le_of_ble_eq_true rfl)⟩ ⟨(Nat.le_of_ble_eq_true rfl), (Nat.le_of_ble_eq_true rfl)⟩ (Nat.le_of_ble_eq_true rfl) (Nat.le_of_ble_eq_true rfl) (by exact ⟨Or.inl ⟨rfl, (by first | (simp_all; done) | (simp only [Int32.lt_iff_toInt_lt, Int32.le_iff_toInt_le] at *; omega))⟩, (fun a9 e9 h7 h8 => by have h6 := (Gz.1 _ _ h8).1.lt; rw [hsz] at h6; exact h8)⟩)
set_option maxRecDepth 100000 in
theorem k_X8_retire {l : Launch} (hfl : l.stackTraces = false) {D : va_G} {cy : Nat → ClassId} {f : Hf} {sz : Nat} {sc m0 m1 lg sv tx r0 r1 : Nat} {ea ra kr : Int32} {al : Nat} (ot hu : Int32) (h_sc : f sc = some (.inr (10, [.ref m0, .ref m1, .ref lg, .ref sv, .ref tx, .ref r0, .ref r1, .int ea, .int ra, .int kr]))) (h_m0 : f m0 = some (.inr (4, [.ref al, .int 0, .int 0, .int 0, .int 0, .int 0]))) (hb_ot : ot = 0 ∨ ot = 1) (hb_hu : hu = 0 ∨ hu = 1) : hMet l yX8_retire cX8_retire 3 (some .int) { frames := 7, cells := 2, slots := 15, locals := 104 } D (hTy cy) f sz [.ref sc, .int ot, .int hu] (hQi (fun r u => False) D f sz) (fun E u => E = "java/lang/IllegalStateException" ∧ hFr f u sc) := by
  refine h_enter (by decide) hfl (Nat.le_of_ble_eq_true rfl) ?_
  intro p9 e9 s9 m9 b9 t9 c9 hsz C0 hr hnm G ls hl
  have hx := C0.1.1
  have hb := C0.1.2.1
  have Gz := G
  have hl : lv_has ls 3 [(0, .ref sc), (1, .int ot), (2, .int hu)] := hl
  refine lv_aload_n hx hb dX8_retire_0 rfl (lv_at hl 0 rfl) ?_
  refine lv_iload_n hx hb dX8_retire_1 rfl (lv_at hl 1 rfl) ?_
  refine lv_iload_n hx hb dX8_retire_2 rfl (lv_at hl 2 rfl) ?_
  have z1 : sc < _ := (G.1 _ _ h_sc).1.lt
  have z2 : m0 < _ := (G.1 _ _ h_m0).1.lt
  have z3 := G.2.1
  refine g_cR C0 G (g_runS C0 G (rest := [.ref sc]) (k_X5_ofRetirement hfl ot hu hb_ot hb_hu) hY_X5_ofRetirement mm_X8_122 ms_X5_ofRetirement ⟨(Nat.le_of_ble_eq_true rfl), (Nat.le_of_ble_eq_true rfl)⟩ rfl hl.1 rfl (Nat.le_of_ble_eq_true rfl) dX8_retire_3 ⟨(Nat.le_of_ble_eq_true rfl), (Nat.le_of_ble_eq_true rfl)⟩) (kx_no rfl) (fun a6 u5 H locs hp4 G => ?_)
  obtain ⟨o7, k8, fr9⟩ := hp4
  have k10 : u5 sc = some (.inr (10, [.ref m0, .ref m1, .ref lg, .ref sv, .ref tx, .ref r0, .ref r1, .int ea, .int ra, .int kr])) := fr9 _ _ (by omega) h_sc
  have k11 : u5 m0 = some (.inr (4, [.ref al, .int 0, .int 0, .int 0, .int 0, .int 0])) := fr9 _ _ (by omega) h_m0
  have fz12 : hFr f u5 sc := (fun a9 e9 h7 h8 => by have h6 := (Gz.1 _ _ h8).1.lt; rw [hsz] at h6; exact fr9 _ _ (Nat.ne_of_lt (Nat.lt_of_lt_of_le h6 (by omega))) (h8))
  exact g_cI C0 G (g_runV C0 G (rest := []) (k_X8_carryOut0 hfl k10 k11) k10 rfl hY_X8_carryOut mm_X8_96 mi_X8_carryOut ml_X8_carryOut ⟨(Nat.le_of_ble_eq_true rfl), (Nat.le_of_ble_eq_true rfl)⟩ rfl hl.1 rfl (Nat.le_of_ble_eq_true rfl) dX8_retire_6 ⟨(Nat.le_of_ble_eq_true rfl), (Nat.le_of_ble_eq_true rfl)⟩) (kx_out C0 (Nat.le_of_ble_eq_true rfl) (Nat.le_of_ble_eq_true rfl) (fun E u h => by obtain ⟨h1, h2⟩ := h; exact ⟨h1, (by rw [h2]; intro a9 e9 h7 h8; rw [va_up_ne _ _ h7]; exact fz12 _ _ h7 h8)⟩)) (fun _ _ _ _ h _ => h.elim)
set_option maxRecDepth 100000 in
theorem k_X8_wicket {l : Launch} (hfl : l.stackTraces = false) {D : va_G} {cy : Nat → ClassId} {f : Hf} {sz : Nat} {sc m0 m1 lg sv tx r0 r1 : Nat} {ea ra kr : Int32} {al : Nat} (wa ki ot ru cr : Int32) (h_sc : f sc = some (.inr (10, [.ref m0, .ref m1, .ref lg, .ref sv, .ref tx, .ref r0, .ref r1, .int ea, .int ra, .int kr]))) (h_m0 : f m0 = some (.inr (4, [.ref al, .int 0, .int 0, .int 0, .int 0, .int 0]))) (hb_ot : ot = 0 ∨ ot = 1) (hb_cr : cr = 0 ∨ cr = 1) : hMet l yX8_wicket cX8_wicket 6 (some .int) { frames := 7, cells := 2, slots := 15, locals := 104 } D (hTy cy) f sz [.ref sc, .int wa, .int ki, .int ot, .int ru, .int cr] (hQi (fun r u => False) D f sz) (fun E u => ((E = "java/lang/IllegalArgumentException" ∧ ¬ ((0 ≤ wa ∧ wa ≤ 5) ∧ (0 ≤ ki ∧ ki ≤ 2) ∧ (0 ≤ ru ∧ ru ≤ 3))) ∨ (E = "java/lang/IllegalStateException" ∧ ((0 ≤ wa ∧ wa ≤ 5) ∧ (0 ≤ ki ∧ ki ≤ 2) ∧ (0 ≤ ru ∧ ru ≤ 3)))) ∧ hFr f u sc) := by
  refine h_enter (by decide) hfl (Nat.le_of_ble_eq_true rfl) ?_
  intro p9 e9 s9 m9 b9 t9 c9 hsz C0 hr hnm G ls hl
  have hx := C0.1.1
  have hb := C0.1.2.1
  have Gz := G
  have hl : lv_has ls 6 [(0, .ref sc), (1, .int wa), (2, .int ki), (3, .int ot), (4, .int ru), (5, .int cr)] := hl
  refine lv_iload_n hx hb dX8_wicket_0 rfl (lv_at hl 1 rfl) ?_
  refine lv_iconst (v := 0) hx hb dX8_wicket_1 (by decide) ?_
  refine lv_iconst (v := 5) hx hb dX8_wicket_2 (by decide) ?_
  refine g_cI C0 G (g_runS C0 G (rest := []) (k_X8_isWithin hfl wa 0 5) hY_X8_isWithin mm_X8_56 ms_X8_isWithin ⟨(Nat.le_of_ble_eq_true rfl), (Nat.le_of_ble_eq_true rfl)⟩ rfl hl.1 rfl (Nat.le_of_ble_eq_true rfl) dX8_wicket_3 ⟨(Nat.le_of_ble_eq_true rfl), (Nat.le_of_ble_eq_true rfl)⟩) (kx_no rfl) (fun r3 u2 H locs hp1 G => ?_)
  obtain ⟨b4, eu2⟩ := hp1
  rw [eu2] at G
  rcases b4 with ⟨rfl, c5⟩ | ⟨rfl, c5⟩
  · refine lv_if_eq (tgt := 28) hx hb dX8_wicket_6 (by decide) (fun c6 => absurd c6 (by decide)) (fun _ => ?_)
    refine lv_iload_n hx hb dX8_wicket_9 rfl (lv_at hl 2 rfl) ?_
    refine lv_iconst (v := 0) hx hb dX8_wicket_10 (by decide) ?_
    refine lv_iconst (v := 2) hx hb dX8_wicket_11 (by decide) ?_
    refine g_cI C0 G (g_runS C0 G (rest := []) (k_X8_isWithin hfl ki 0 2) hY_X8_isWithin mm_X8_56 ms_X8_isWithin ⟨(Nat.le_of_ble_eq_true rfl), (Nat.le_of_ble_eq_true rfl)⟩ rfl hl.1 rfl (Nat.le_of_ble_eq_true rfl) dX8_wicket_12 ⟨(Nat.le_of_ble_eq_true rfl), (Nat.le_of_ble_eq_true rfl)⟩) (kx_no rfl) (fun r9 u8 H locs hp7 G => ?_)
    obtain ⟨b10, eu8⟩ := hp7
    rw [eu8] at G
    rcases b10 with ⟨rfl, c11⟩ | ⟨rfl, c11⟩
    · refine lv_if_eq (tgt := 28) hx hb dX8_wicket_15 (by decide) (fun c12 => absurd c12 (by decide)) (fun _ => ?_)
      refine lv_iload hx hb dX8_wicket_18 (lv_at hl 4 rfl) ?_
      refine lv_iconst (v := 0) hx hb dX8_wicket_20 (by decide) ?_
      refine lv_iconst (v := 3) hx hb dX8_wicket_21 (by decide) ?_
      refine g_cI C0 G (g_runS C0 G (rest := []) (k_X8_isWithin hfl ru 0 3) hY_X8_isWithin mm_X8_56 ms_X8_isWithin ⟨(Nat.le_of_ble_eq_true rfl), (Nat.le_of_ble_eq_true rfl)⟩ rfl hl.1 rfl (Nat.le_of_ble_eq_true rfl) dX8_wicket_22 ⟨(Nat.le_of_ble_eq_true rfl), (Nat.le_of_ble_eq_true rfl)⟩) (kx_no rfl) (fun r15 u14 H locs hp13 G => ?_)
      obtain ⟨b16, eu14⟩ := hp13
      rw [eu14] at G
      rcases b16 with ⟨rfl, c17⟩ | ⟨rfl, c17⟩
      · refine lv_if_ne (tgt := 38) hx hb dX8_wicket_25 (by decide) (fun _ => ?_) (fun c18 => absurd c18 (by decide))
        refine lv_aload_n hx hb dX8_wicket_38 rfl (lv_at hl 0 rfl) ?_
        refine lv_iload_n hx hb dX8_wicket_39 rfl (lv_at hl 1 rfl) ?_
        refine lv_iload_n hx hb dX8_wicket_40 rfl (lv_at hl 2 rfl) ?_
        refine lv_iload_n hx hb dX8_wicket_41 rfl (lv_at hl 3 rfl) ?_
        refine lv_iload hx hb dX8_wicket_42 (lv_at hl 4 rfl) ?_
        refine lv_iload hx hb dX8_wicket_44 (lv_at hl 5 rfl) ?_
        have z19 : sc < _ := (G.1 _ _ h_sc).1.lt
        have z20 : m0 < _ := (G.1 _ _ h_m0).1.lt
        have z21 := G.2.1
        refine g_cR C0 G (g_runS C0 G (rest := [.ref sc]) (k_X5_ofWicket hfl wa ki ot ru cr hb_ot hb_cr) hY_X5_ofWicket mm_X8_118 ms_X5_ofWicket ⟨(Nat.le_of_ble_eq_true rfl), (Nat.le_of_ble_eq_true rfl)⟩ rfl hl.1 rfl (Nat.le_of_ble_eq_true rfl) dX8_wicket_46 ⟨(Nat.le_of_ble_eq_true rfl), (Nat.le_of_ble_eq_true rfl)⟩) (kx_no rfl) (fun a24 u23 H locs hp22 G => ?_)
        obtain ⟨o25, k26, fr27⟩ := hp22
        have k28 : u23 sc = some (.inr (10, [.ref m0, .ref m1, .ref lg, .ref sv, .ref tx, .ref r0, .ref r1, .int ea, .int ra, .int kr])) := fr27 _ _ (by omega) h_sc
        have k29 : u23 m0 = some (.inr (4, [.ref al, .int 0, .int 0, .int 0, .int 0, .int 0])) := fr27 _ _ (by omega) h_m0
        have fz30 : hFr f u23 sc := (fun a9 e9 h7 h8 => by have h6 := (Gz.1 _ _ h8).1.lt; rw [hsz] at h6; exact fr27 _ _ (Nat.ne_of_lt (Nat.lt_of_lt_of_le h6 (by omega))) (h8))
        exact g_cI C0 G (g_runV C0 G (rest := []) (k_X8_carryOut0 hfl k28 k29) k28 rfl hY_X8_carryOut mm_X8_96 mi_X8_carryOut ml_X8_carryOut ⟨(Nat.le_of_ble_eq_true rfl), (Nat.le_of_ble_eq_true rfl)⟩ rfl hl.1 rfl (Nat.le_of_ble_eq_true rfl) dX8_wicket_49 ⟨(Nat.le_of_ble_eq_true rfl), (Nat.le_of_ble_eq_true rfl)⟩) (kx_out C0 (Nat.le_of_ble_eq_true rfl) (Nat.le_of_ble_eq_true rfl) (fun E u h => by obtain ⟨h1, h2⟩ := h; exact ⟨Or.inr ⟨h1, (by first | (simp_all; done) | (simp only [Int32.lt_iff_toInt_lt, Int32.le_iff_toInt_le] at *; omega))⟩, (by rw [h2]; intro a9 e9 h7 h8; rw [va_up_ne _ _ h7]; exact fz30 _ _ h7 h8)⟩)) (fun _ _ _ _ h _ => h.elim)
      · refine lv_if_ne (tgt := 38) hx hb dX8_wicket_25 (by decide) (fun c31 => absurd (by decide) c31) (fun _ => ?_)
        exact g_throw C0 G (X := "java/lang/IllegalArgumentException") (by decide) mk_X8_60 mz_java_lang_IllegalArgumentException (is := 116) (text := "way, kind or runs out of range") (by decide) hat_64 hl.1 dX8_wicket_28 dX8_wicket_31 dX8_wicket_32 dX8_wicket_34 dX8_wicket_37 ⟨(Nat.le_of_ble_eq_true rfl), (Nat.le_of_ble_eq_true rfl)⟩ ⟨(Nat.le_of_ble_eq_true rfl), (Nat.le_of_ble_eq_true rfl)⟩ (Nat.le_of_ble_eq_true rfl) (Nat.le_of_ble_eq_true rfl) (by exact ⟨Or.inl ⟨rfl, (by first | (simp_all; done) | (simp only [Int32.lt_iff_toInt_lt, Int32.le_iff_toInt_le] at *; omega))⟩, (fun a9 e9 h7 h8 => by have h6 := (Gz.1 _ _ h8).1.lt; rw [hsz] at h6; exact h8)⟩)
    · refine lv_if_eq (tgt := 28) hx hb dX8_wicket_15 (by decide) (fun _ => ?_) (fun c32 => absurd (by decide) c32)
      exact g_throw C0 G (X := "java/lang/IllegalArgumentException") (by decide) mk_X8_60 mz_java_lang_IllegalArgumentException (is := 116) (text := "way, kind or runs out of range") (by decide) hat_64 hl.1 dX8_wicket_28 dX8_wicket_31 dX8_wicket_32 dX8_wicket_34 dX8_wicket_37 ⟨(Nat.le_of_ble_eq_true rfl), (Nat.le_of_ble_eq_true rfl)⟩ ⟨(Nat.le_of_ble_eq_true rfl), (Nat.le_of_ble_eq_true rfl)⟩ (Nat.le_of_ble_eq_true rfl) (Nat.le_of_ble_eq_true rfl) (by exact ⟨Or.inl ⟨rfl, (by first | (simp_all; done) | (simp only [Int32.lt_iff_toInt_lt, Int32.le_iff_toInt_le] at *; omega))⟩, (fun a9 e9 h7 h8 => by have h6 := (Gz.1 _ _ h8).1.lt; rw [hsz] at h6; exact h8)⟩)
  · refine lv_if_eq (tgt := 28) hx hb dX8_wicket_6 (by decide) (fun _ => ?_) (fun c33 => absurd (by decide) c33)
    exact g_throw C0 G (X := "java/lang/IllegalArgumentException") (by decide) mk_X8_60 mz_java_lang_IllegalArgumentException (is := 116) (text := "way, kind or runs out of range") (by decide) hat_64 hl.1 dX8_wicket_28 dX8_wicket_31 dX8_wicket_32 dX8_wicket_34 dX8_wicket_37 ⟨(Nat.le_of_ble_eq_true rfl), (Nat.le_of_ble_eq_true rfl)⟩ ⟨(Nat.le_of_ble_eq_true rfl), (Nat.le_of_ble_eq_true rfl)⟩ (Nat.le_of_ble_eq_true rfl) (Nat.le_of_ble_eq_true rfl) (by exact ⟨Or.inl ⟨rfl, (by first | (simp_all; done) | (simp only [Int32.lt_iff_toInt_lt, Int32.le_iff_toInt_le] at *; omega))⟩, (fun a9 e9 h7 h8 => by have h6 := (Gz.1 _ _ h8).1.lt; rw [hsz] at h6; exact h8)⟩)
set_option maxRecDepth 100000 in
theorem k_X8_ball {l : Launch} (hfl : l.stackTraces = false) {D : va_G} {cy : Nat → ClassId} {f : Hf} {sz : Nat} {sc m0 m1 lg sv tx r0 r1 : Nat} {ea ra kr : Int32} {al : Nat} (ki ru bo : Int32) (h_sc : f sc = some (.inr (10, [.ref m0, .ref m1, .ref lg, .ref sv, .ref tx, .ref r0, .ref r1, .int ea, .int ra, .int kr]))) (h_m0 : f m0 = some (.inr (4, [.ref al, .int 0, .int 0, .int 0, .int 0, .int 0]))) (hb_bo : bo = 0 ∨ bo = 1) : hMet l yX8_ball cX8_ball 4 (some .int) { frames := 7, cells := 2, slots := 15, locals := 104 } D (hTy cy) f sz [.ref sc, .int ki, .int ru, .int bo] (hQi (fun r u => False) D f sz) (fun E u => ((E = "java/lang/IllegalArgumentException" ∧ ¬ ((0 ≤ ki ∧ ki ≤ 4) ∧ ((if ki = 3 ∨ ki = 4 then 1 else 0) ≤ ru ∧ ru ≤ (if ki = 0 ∨ ki = 2 then 6 else 4)) ∧ (bo = 0 ∨ ((ki = 0 ∨ ki = 2) ∧ (ru = 4 ∨ ru = 6))))) ∨ (E = "java/lang/IllegalStateException" ∧ ((0 ≤ ki ∧ ki ≤ 4) ∧ ((if ki = 3 ∨ ki = 4 then 1 else 0) ≤ ru ∧ ru ≤ (if ki = 0 ∨ ki = 2 then 6 else 4)) ∧ (bo = 0 ∨ ((ki = 0 ∨ ki = 2) ∧ (ru = 4 ∨ ru = 6)))))) ∧ hFr f u sc) := by
  refine h_enter (by decide) hfl (Nat.le_of_ble_eq_true rfl) ?_
  intro p9 e9 s9 m9 b9 t9 c9 hsz C0 hr hnm G ls hl
  have hx := C0.1.1
  have hb := C0.1.2.1
  have Gz := G
  have hl : lv_has ls 4 [(0, .ref sc), (1, .int ki), (2, .int ru), (3, .int bo)] := hl
  refine lv_iload_n hx hb dX8_ball_0 rfl (lv_at hl 1 rfl) ?_
  refine lv_iconst (v := 0) hx hb dX8_ball_1 (by decide) ?_
  refine lv_iconst (v := 4) hx hb dX8_ball_2 (by decide) ?_
  refine g_cI C0 G (g_runS C0 G (rest := []) (k_X8_isWithin hfl ki 0 4) hY_X8_isWithin mm_X8_56 ms_X8_isWithin ⟨(Nat.le_of_ble_eq_true rfl), (Nat.le_of_ble_eq_true rfl)⟩ rfl hl.1 rfl (Nat.le_of_ble_eq_true rfl) dX8_ball_3 ⟨(Nat.le_of_ble_eq_true rfl), (Nat.le_of_ble_eq_true rfl)⟩) (kx_no rfl) (fun r3 u2 H locs hp1 G => ?_)
  obtain ⟨b4, eu2⟩ := hp1
  rw [eu2] at G
  rcases b4 with ⟨rfl, c5⟩ | ⟨rfl, c5⟩
  · refine lv_if_eq (tgt := 36) hx hb dX8_ball_6 (by decide) (fun c6 => absurd c6 (by decide)) (fun _ => ?_)
    refine lv_iload_n hx hb dX8_ball_9 rfl (lv_at hl 2 rfl) ?_
    refine lv_iload_n hx hb dX8_ball_10 rfl (lv_at hl 1 rfl) ?_
    refine g_cI C0 G (g_runS C0 G (rest := [.int ru]) (k_X8_leastRuns hfl ki) hY_X8_leastRuns mm_X8_100 ms_X8_leastRuns ⟨(Nat.le_of_ble_eq_true rfl), (Nat.le_of_ble_eq_true rfl)⟩ rfl hl.1 rfl (Nat.le_of_ble_eq_true rfl) dX8_ball_11 ⟨(Nat.le_of_ble_eq_true rfl), (Nat.le_of_ble_eq_true rfl)⟩) (kx_no rfl) (fun r9 u8 H locs hp7 G => ?_)
    obtain ⟨rfl, eu8⟩ := hp7
    rw [eu8] at G
    refine lv_iload_n hx hb dX8_ball_14 rfl (lv_at hl 1 rfl) ?_
    refine g_cI C0 G (g_runS C0 G (rest := [.int (if ki = 3 ∨ ki = 4 then 1 else 0), .int ru]) (k_X8_mostRuns hfl ki) hY_X8_mostRuns mm_X8_103 ms_X8_mostRuns ⟨(Nat.le_of_ble_eq_true rfl), (Nat.le_of_ble_eq_true rfl)⟩ rfl hl.1 rfl (Nat.le_of_ble_eq_true rfl) dX8_ball_15 ⟨(Nat.le_of_ble_eq_true rfl), (Nat.le_of_ble_eq_true rfl)⟩) (kx_no rfl) (fun r12 u11 H locs hp10 G => ?_)
    obtain ⟨rfl, eu11⟩ := hp10
    rw [eu11] at G
    refine g_cI C0 G (g_runS C0 G (rest := []) (k_X8_isWithin hfl ru (if ki = 3 ∨ ki = 4 then 1 else 0) (if ki = 0 ∨ ki = 2 then 6 else 4)) hY_X8_isWithin mm_X8_56 ms_X8_isWithin ⟨(Nat.le_of_ble_eq_true rfl), (Nat.le_of_ble_eq_true rfl)⟩ rfl hl.1 rfl (Nat.le_of_ble_eq_true rfl) dX8_ball_18 ⟨(Nat.le_of_ble_eq_true rfl), (Nat.le_of_ble_eq_true rfl)⟩) (kx_no rfl) (fun r15 u14 H locs hp13 G => ?_)
    obtain ⟨b16, eu14⟩ := hp13
    rw [eu14] at G
    rcases b16 with ⟨rfl, c17⟩ | ⟨rfl, c17⟩
    · refine lv_if_eq (tgt := 36) hx hb dX8_ball_21 (by decide) (fun c18 => absurd c18 (by decide)) (fun _ => ?_)
      refine lv_iload_n hx hb dX8_ball_24 rfl (lv_at hl 3 rfl) ?_
      refine lv_if_eq (tgt := 46) hx hb dX8_ball_25 (by decide) (fun c19 => ?_) (fun c19 => ?_)
      · refine lv_aload_n hx hb dX8_ball_46 rfl (lv_at hl 0 rfl) ?_
        refine lv_iload_n hx hb dX8_ball_47 rfl (lv_at hl 1 rfl) ?_
        refine lv_iload_n hx hb dX8_ball_48 rfl (lv_at hl 2 rfl) ?_
        refine lv_iload_n hx hb dX8_ball_49 rfl (lv_at hl 3 rfl) ?_
        have z20 : sc < _ := (G.1 _ _ h_sc).1.lt
        have z21 : m0 < _ := (G.1 _ _ h_m0).1.lt
        have z22 := G.2.1
        refine g_cR C0 G (g_runS C0 G (rest := [.ref sc]) (k_X5_ofBall hfl ki ru bo hb_bo) hY_X5_ofBall mm_X8_112 ms_X5_ofBall ⟨(Nat.le_of_ble_eq_true rfl), (Nat.le_of_ble_eq_true rfl)⟩ rfl hl.1 rfl (Nat.le_of_ble_eq_true rfl) dX8_ball_50 ⟨(Nat.le_of_ble_eq_true rfl), (Nat.le_of_ble_eq_true rfl)⟩) (kx_no rfl) (fun a25 u24 H locs hp23 G => ?_)
        obtain ⟨o26, k27, fr28⟩ := hp23
        have k29 : u24 sc = some (.inr (10, [.ref m0, .ref m1, .ref lg, .ref sv, .ref tx, .ref r0, .ref r1, .int ea, .int ra, .int kr])) := fr28 _ _ (by omega) h_sc
        have k30 : u24 m0 = some (.inr (4, [.ref al, .int 0, .int 0, .int 0, .int 0, .int 0])) := fr28 _ _ (by omega) h_m0
        have fz31 : hFr f u24 sc := (fun a9 e9 h7 h8 => by have h6 := (Gz.1 _ _ h8).1.lt; rw [hsz] at h6; exact fr28 _ _ (Nat.ne_of_lt (Nat.lt_of_lt_of_le h6 (by omega))) (h8))
        exact g_cI C0 G (g_runV C0 G (rest := []) (k_X8_carryOut0 hfl k29 k30) k29 rfl hY_X8_carryOut mm_X8_96 mi_X8_carryOut ml_X8_carryOut ⟨(Nat.le_of_ble_eq_true rfl), (Nat.le_of_ble_eq_true rfl)⟩ rfl hl.1 rfl (Nat.le_of_ble_eq_true rfl) dX8_ball_53 ⟨(Nat.le_of_ble_eq_true rfl), (Nat.le_of_ble_eq_true rfl)⟩) (kx_out C0 (Nat.le_of_ble_eq_true rfl) (Nat.le_of_ble_eq_true rfl) (fun E u h => by obtain ⟨h1, h2⟩ := h; exact ⟨Or.inr ⟨h1, (by first | (simp_all; done) | (simp only [Int32.lt_iff_toInt_lt, Int32.le_iff_toInt_le] at *; omega))⟩, (by rw [h2]; intro a9 e9 h7 h8; rw [va_up_ne _ _ h7]; exact fz31 _ _ h7 h8)⟩)) (fun _ _ _ _ h _ => h.elim)
      · refine lv_iload_n hx hb dX8_ball_28 rfl (lv_at hl 1 rfl) ?_
        refine lv_iload_n hx hb dX8_ball_29 rfl (lv_at hl 2 rfl) ?_
        refine g_cI C0 G (g_runS C0 G (rest := []) (k_X8_canBeBoundary hfl ki ru) hY_X8_canBeBoundary mm_X8_106 ms_X8_canBeBoundary ⟨(Nat.le_of_ble_eq_true rfl), (Nat.le_of_ble_eq_true rfl)⟩ rfl hl.1 rfl (Nat.le_of_ble_eq_true rfl) dX8_ball_30 ⟨(Nat.le_of_ble_eq_true rfl), (Nat.le_of_ble_eq_true rfl)⟩) (kx_no rfl) (fun r34 u33 H locs hp32 G => ?_)
        obtain ⟨b35, eu33⟩ := hp32
        rw [eu33] at G
        rcases b35 with ⟨rfl, c36⟩ | ⟨rfl, c36⟩
        · refine lv_if_ne (tgt := 46) hx hb dX8_ball_33 (by decide) (fun _ => ?_) (fun c37 => absurd c37 (by decide))
          refine lv_aload_n hx hb dX8_ball_46 rfl (lv_at hl 0 rfl) ?_
          refine lv_iload_n hx hb dX8_ball_47 rfl (lv_at hl 1 rfl) ?_
          refine lv_iload_n hx hb dX8_ball_48 rfl (lv_at hl 2 rfl) ?_
          refine lv_iload_n hx hb dX8_ball_49 rfl (lv_at hl 3 rfl) ?_
          have z38 : sc < _ := (G.1 _ _ h_sc).1.lt
          have z39 : m0 < _ := (G.1 _ _ h_m0).1.lt
          have z40 := G.2.1
          refine g_cR C0 G (g_runS C0 G (rest := [.ref sc]) (k_X5_ofBall hfl ki ru bo hb_bo) hY_X5_ofBall mm_X8_112 ms_X5_ofBall ⟨(Nat.le_of_ble_eq_true rfl), (Nat.le_of_ble_eq_true rfl)⟩ rfl hl.1 rfl (Nat.le_of_ble_eq_true rfl) dX8_ball_50 ⟨(Nat.le_of_ble_eq_true rfl), (Nat.le_of_ble_eq_true rfl)⟩) (kx_no rfl) (fun a43 u42 H locs hp41 G => ?_)
          obtain ⟨o44, k45, fr46⟩ := hp41
          have k47 : u42 sc = some (.inr (10, [.ref m0, .ref m1, .ref lg, .ref sv, .ref tx, .ref r0, .ref r1, .int ea, .int ra, .int kr])) := fr46 _ _ (by omega) h_sc
          have k48 : u42 m0 = some (.inr (4, [.ref al, .int 0, .int 0, .int 0, .int 0, .int 0])) := fr46 _ _ (by omega) h_m0
          have fz49 : hFr f u42 sc := (fun a9 e9 h7 h8 => by have h6 := (Gz.1 _ _ h8).1.lt; rw [hsz] at h6; exact fr46 _ _ (Nat.ne_of_lt (Nat.lt_of_lt_of_le h6 (by omega))) (h8))
          exact g_cI C0 G (g_runV C0 G (rest := []) (k_X8_carryOut0 hfl k47 k48) k47 rfl hY_X8_carryOut mm_X8_96 mi_X8_carryOut ml_X8_carryOut ⟨(Nat.le_of_ble_eq_true rfl), (Nat.le_of_ble_eq_true rfl)⟩ rfl hl.1 rfl (Nat.le_of_ble_eq_true rfl) dX8_ball_53 ⟨(Nat.le_of_ble_eq_true rfl), (Nat.le_of_ble_eq_true rfl)⟩) (kx_out C0 (Nat.le_of_ble_eq_true rfl) (Nat.le_of_ble_eq_true rfl) (fun E u h => by obtain ⟨h1, h2⟩ := h; exact ⟨Or.inr ⟨h1, (by first | (simp_all; done) | (simp only [Int32.lt_iff_toInt_lt, Int32.le_iff_toInt_le] at *; omega))⟩, (by rw [h2]; intro a9 e9 h7 h8; rw [va_up_ne _ _ h7]; exact fz49 _ _ h7 h8)⟩)) (fun _ _ _ _ h _ => h.elim)
        · refine lv_if_ne (tgt := 46) hx hb dX8_ball_33 (by decide) (fun c50 => absurd (by decide) c50) (fun _ => ?_)
          exact g_throw C0 G (X := "java/lang/IllegalArgumentException") (by decide) mk_X8_60 mz_java_lang_IllegalArgumentException (is := 110) (text := "no such ball") (by decide) hat_64 hl.1 dX8_ball_36 dX8_ball_39 dX8_ball_40 dX8_ball_42 dX8_ball_45 ⟨(Nat.le_of_ble_eq_true rfl), (Nat.le_of_ble_eq_true rfl)⟩ ⟨(Nat.le_of_ble_eq_true rfl), (Nat.le_of_ble_eq_true rfl)⟩ (Nat.le_of_ble_eq_true rfl) (Nat.le_of_ble_eq_true rfl) (by exact ⟨Or.inl ⟨rfl, (by first | (simp_all; done) | (simp only [Int32.lt_iff_toInt_lt, Int32.le_iff_toInt_le] at *; omega))⟩, (fun a9 e9 h7 h8 => by have h6 := (Gz.1 _ _ h8).1.lt; rw [hsz] at h6; exact h8)⟩)
    · refine lv_if_eq (tgt := 36) hx hb dX8_ball_21 (by decide) (fun _ => ?_) (fun c51 => absurd (by decide) c51)
      exact g_throw C0 G (X := "java/lang/IllegalArgumentException") (by decide) mk_X8_60 mz_java_lang_IllegalArgumentException (is := 110) (text := "no such ball") (by decide) hat_64 hl.1 dX8_ball_36 dX8_ball_39 dX8_ball_40 dX8_ball_42 dX8_ball_45 ⟨(Nat.le_of_ble_eq_true rfl), (Nat.le_of_ble_eq_true rfl)⟩ ⟨(Nat.le_of_ble_eq_true rfl), (Nat.le_of_ble_eq_true rfl)⟩ (Nat.le_of_ble_eq_true rfl) (Nat.le_of_ble_eq_true rfl) (by exact ⟨Or.inl ⟨rfl, (by first | (simp_all; done) | (simp only [Int32.lt_iff_toInt_lt, Int32.le_iff_toInt_le] at *; omega))⟩, (fun a9 e9 h7 h8 => by have h6 := (Gz.1 _ _ h8).1.lt; rw [hsz] at h6; exact h8)⟩)
  · refine lv_if_eq (tgt := 36) hx hb dX8_ball_6 (by decide) (fun _ => ?_) (fun c52 => absurd (by decide) c52)
    exact g_throw C0 G (X := "java/lang/IllegalArgumentException") (by decide) mk_X8_60 mz_java_lang_IllegalArgumentException (is := 110) (text := "no such ball") (by decide) hat_64 hl.1 dX8_ball_36 dX8_ball_39 dX8_ball_40 dX8_ball_42 dX8_ball_45 ⟨(Nat.le_of_ble_eq_true rfl), (Nat.le_of_ble_eq_true rfl)⟩ ⟨(Nat.le_of_ble_eq_true rfl), (Nat.le_of_ble_eq_true rfl)⟩ (Nat.le_of_ble_eq_true rfl) (Nat.le_of_ble_eq_true rfl) (by exact ⟨Or.inl ⟨rfl, (by first | (simp_all; done) | (simp only [Int32.lt_iff_toInt_lt, Int32.le_iff_toInt_le] at *; omega))⟩, (fun a9 e9 h7 h8 => by have h6 := (Gz.1 _ _ h8).1.lt; rw [hsz] at h6; exact h8)⟩)
set_option maxRecDepth 100000 in
theorem k_X7_isFull {l : Launch} (hfl : l.stackTraces = false) {D : va_G} {cy : Nat → ClassId} {f : Hf} {sz : Nat} {tx bf tn tp : Nat} {len cnt : Int32} {gb : Nat → Int32} (h_tx : f tx = some (.inr (9, [.ref bf, .ref tn, .ref tp, .int len, .int cnt]))) (h_bf : f bf = some (.inl (cy 1, 60, .inl gb))) : hMet l yX7_isFull cX7_isFull 1 (some .boolean) { frames := 0, cells := 0, slots := 0, locals := 0 } D (hTy cy) f sz [.ref tx] (hQi (fun r u => ((r = 1 ∧ 60 ≤ len) ∨ (r = 0 ∧ ¬ (60 ≤ len))) ∧ u = f) D f sz) hNo := by
  refine h_enter (by decide) hfl (Nat.le_of_ble_eq_true rfl) ?_
  intro p9 e9 s9 m9 b9 t9 c9 hsz C0 hr hnm G ls hl
  have hx := C0.1.1
  have hb := C0.1.2.1
  have hl : lv_has ls 1 [(0, .ref tx)] := hl
  refine lv_aload_n hx hb dX7_isFull_0 rfl (lv_at hl 0 rfl) ?_
  refine g_get C0 G h_tx rfl hiX7 3 (by decide) mf_X7_28 rfl dX7_isFull_1 ?_
  refine lv_aload_n hx hb dX7_isFull_4 rfl (lv_at hl 0 rfl) ?_
  refine g_get C0 G h_tx rfl hiX7 0 (by decide) mf_X7_9 rfl dX7_isFull_5 ?_
  refine g_alen C0 G h_bf 1 rfl (v := 60) rfl dX7_isFull_8 ?_
  refine lv_icmp_lt (tgt := 16) hx hb dX7_isFull_9 (by decide) (fun c1 => ?_) (fun c1 => ?_)
  · refine lv_iconst (v := 0) hx hb dX7_isFull_16 (by decide) ?_
    exact g_zret C0 G hr dX7_isFull_17 rfl (Nat.le_of_ble_eq_true rfl) (Nat.le_of_ble_eq_true rfl) (by refine ⟨?_, rfl⟩; first | (simp_all; done) | (refine Or.inl ⟨rfl, ?_⟩; first | (simp only [Int32.lt_iff_toInt_lt, Int32.le_iff_toInt_le, ← Int32.toInt_inj] at *; first | omega | (simp at *; omega)) | (simp_all; done)) | (refine Or.inr ⟨rfl, ?_⟩; first | (simp only [Int32.lt_iff_toInt_lt, Int32.le_iff_toInt_le, ← Int32.toInt_inj] at *; first | omega | (simp at *; omega)) | (simp_all; done)))
  · refine lv_iconst (v := 1) hx hb dX7_isFull_12 (by decide) ?_
    refine lv_goto (tgt := 17) hx hb dX7_isFull_13 (by decide) ?_
    exact g_zret C0 G hr dX7_isFull_17 rfl (Nat.le_of_ble_eq_true rfl) (Nat.le_of_ble_eq_true rfl) (by refine ⟨?_, rfl⟩; first | (simp_all; done) | (refine Or.inl ⟨rfl, ?_⟩; first | (simp only [Int32.lt_iff_toInt_lt, Int32.le_iff_toInt_le, ← Int32.toInt_inj] at *; first | omega | (simp at *; omega)) | (simp_all; done)) | (refine Or.inr ⟨rfl, ?_⟩; first | (simp only [Int32.lt_iff_toInt_lt, Int32.le_iff_toInt_le, ← Int32.toInt_inj] at *; first | omega | (simp at *; omega)) | (simp_all; done)))
set_option maxRecDepth 100000 in
theorem k_X7_put0 {l : Launch} (hfl : l.stackTraces = false) {D : va_G} {cy : Nat → ClassId} {f : Hf} {sz : Nat} {tx bf tn tp : Nat} {gb : Nat → Int32} (ch : Int32) (h_tx : f tx = some (.inr (9, [.ref bf, .ref tn, .ref tp, .int 0, .int 0]))) (h_bf : f bf = some (.inl (cy 1, 60, .inl gb))) : hMet l yX7_put cX7_put 2 (some .int) { frames := 0, cells := 0, slots := 0, locals := 0 } D (hTy cy) f sz [.ref tx, .int ch] (hQi (fun r u => r = 1 ∧ hFrL f u [tx, bf]) D f sz) hNo := by
  refine h_enter (by decide) hfl (Nat.le_of_ble_eq_true rfl) ?_
  intro p9 e9 s9 m9 b9 t9 c9 hsz C0 hr hnm G ls hl
  have hx := C0.1.1
  have hb := C0.1.2.1
  have hl : lv_has ls 2 [(0, .ref tx), (1, .int ch)] := hl
  refine lv_aload_n hx hb dX7_put_0 rfl (lv_at hl 0 rfl) ?_
  refine g_get C0 G h_tx rfl hiX7 3 (by decide) mf_X7_28 rfl dX7_put_1 ?_
  refine lv_if_lt (tgt := 39) hx hb dX7_put_4 (by decide) (fun c1 => absurd c1 (by decide)) (fun _ => ?_)
  refine lv_aload_n hx hb dX7_put_7 rfl (lv_at hl 0 rfl) ?_
  refine g_get C0 G h_tx rfl hiX7 3 (by decide) mf_X7_28 rfl dX7_put_8 ?_
  refine lv_aload_n hx hb dX7_put_11 rfl (lv_at hl 0 rfl) ?_
  refine g_get C0 G h_tx rfl hiX7 0 (by decide) mf_X7_9 rfl dX7_put_12 ?_
  refine g_alen C0 G h_bf 1 rfl (v := 60) rfl dX7_put_15 ?_
  refine lv_icmp_ge (tgt := 39) hx hb dX7_put_16 (by decide) (fun c2 => absurd c2 (by decide)) (fun _ => ?_)
  refine lv_aload_n hx hb dX7_put_19 rfl (lv_at hl 0 rfl) ?_
  refine g_get C0 G h_tx rfl hiX7 0 (by decide) mf_X7_9 rfl dX7_put_20 ?_
  refine lv_aload_n hx hb dX7_put_23 rfl (lv_at hl 0 rfl) ?_
  refine g_get C0 G h_tx rfl hiX7 3 (by decide) mf_X7_28 rfl dX7_put_24 ?_
  refine lv_iload_n hx hb dX7_put_27 rfl (lv_at hl 1 rfl) ?_
  refine g_cast C0 G h_bf 1 rfl (by unfold vp_in; decide) dX7_put_28 (fun H locs f3 hf3 G => ?_)
  have k4 : f3 bf = some (.inl (cy 1, 60, .inl (upd gb 0 (vp_nar .char ch)))) := hus hf3
  refine lv_aload_n hx hb dX7_put_29 rfl (lv_at hl 0 rfl) ?_
  refine lv_dup hx hb dX7_put_30 rfl ?_
  have k5 : f3 tx = some (.inr (9, [.ref bf, .ref tn, .ref tp, .int 0, .int 0])) := hup hf3 (hne h_tx h_bf (by intro q; cases q)) h_tx
  refine g_get C0 G k5 rfl hiX7 3 (by decide) mf_X7_28 rfl dX7_put_31 ?_
  refine lv_iconst (v := 1) hx hb dX7_put_34 (by decide) ?_
  refine lv_iadd hx hb dX7_put_35 ?_
  refine lv_topv (v := 1) (by decide) ?_
  refine g_put C0 G k5 rfl hiX7 tyX7 tyX7_ok nmX7 3 (by decide) mf_X7_28 rfl rfl rfl rfl (Nat.le_of_ble_eq_true rfl) dX7_put_36 (fun H locs f6 hf6 G => ?_)
  have k7 : f6 tx = some (.inr (9, [.ref bf, .ref tn, .ref tp, .int 1, .int 0])) := hus hf6
  refine lv_aload_n hx hb dX7_put_39 rfl (lv_at hl 0 rfl) ?_
  refine g_get C0 G k7 rfl hiX7 3 (by decide) mf_X7_28 rfl dX7_put_40 ?_
  exact g_iret C0 G hr dX7_put_43 (Nat.le_of_ble_eq_true rfl) (Nat.le_of_ble_eq_true rfl) (by exact ⟨rfl, fun a9 e9 h7 h8 => hup hf6 (fun q => h7 (by rw [q]; simp)) (hup hf3 (fun q => h7 (by rw [q]; simp)) (h8))⟩)
set_option maxRecDepth 100000 in
theorem k_X7_clear {l : Launch} (hfl : l.stackTraces = false) {D : va_G} {cy : Nat → ClassId} {f : Hf} {sz : Nat} {tx bf tn tp : Nat} {len cnt : Int32} (h_tx : f tx = some (.inr (9, [.ref bf, .ref tn, .ref tp, .int len, .int cnt]))) : hMet l yX7_clear cX7_clear 1 none { frames := 0, cells := 0, slots := 0, locals := 0 } D (hTy cy) f sz [.ref tx] (hQv (fun u => u = va_up f tx (some (.inr (9, [.ref bf, .ref tn, .ref tp, .int 0, .int cnt])))) D f sz) hNo := by
  refine h_enter (by decide) hfl (Nat.le_of_ble_eq_true rfl) ?_
  intro p9 e9 s9 m9 b9 t9 c9 hsz C0 hr hnm G ls hl
  have hx := C0.1.1
  have hb := C0.1.2.1
  have hl : lv_has ls 1 [(0, .ref tx)] := hl
  refine lv_aload_n hx hb dX7_clear_0 rfl (lv_at hl 0 rfl) ?_
  refine lv_iconst (v := 0) hx hb dX7_clear_1 (by decide) ?_
  refine g_put C0 G h_tx rfl hiX7 tyX7 tyX7_ok nmX7 3 (by decide) mf_X7_28 rfl rfl rfl rfl (Nat.le_of_ble_eq_true rfl) dX7_clear_2 (fun H locs f1 hf1 G => ?_)
  have k2 : f1 tx = some (.inr (9, [.ref bf, .ref tn, .ref tp, .int 0, .int cnt])) := hus hf1
  exact g_vret C0 G hr dX7_clear_5 (Nat.le_of_ble_eq_true rfl) (Nat.le_of_ble_eq_true rfl) (by exact hf1)
set_option maxRecDepth 100000 in
theorem k_X7_parse0 {l : Launch} (hfl : l.stackTraces = false) {D : va_G} {cy : Nat → ClassId} {f : Hf} {sz : Nat} {tx bf tn tp : Nat} (h_tx : f tx = some (.inr (9, [.ref bf, .ref tn, .ref tp, .int 0, .int 0]))) : hMet l yX7_parse cX7_parse 5 (some .int) { frames := 0, cells := 0, slots := 0, locals := 0 } D (hTy cy) f sz [.ref tx] (hQi (fun r u => r = 0 ∧ u = va_up f tx (some (.inr (9, [.ref bf, .ref tn, .ref tp, .int 0, .int 0])))) D f sz) hNo := by
  refine h_enter (by decide) hfl (Nat.le_of_ble_eq_true rfl) ?_
  intro p9 e9 s9 m9 b9 t9 c9 hsz C0 hr hnm G ls hl
  have hx := C0.1.1
  have hb := C0.1.2.1
  have hl : lv_has ls 5 [(0, .ref tx)] := hl
  refine lv_aload_n hx hb dX7_parse_0 rfl (lv_at hl 0 rfl) ?_
  refine lv_iconst (v := 0) hx hb dX7_parse_1 (by decide) ?_
  refine g_put C0 G h_tx rfl hiX7 tyX7 tyX7_ok nmX7 4 (by decide) mf_X7_32 rfl rfl rfl rfl (Nat.le_of_ble_eq_true rfl) dX7_parse_2 (fun H locs f1 hf1 G => ?_)
  have k2 : f1 tx = some (.inr (9, [.ref bf, .ref tn, .ref tp, .int 0, .int 0])) := hus hf1
  refine lv_iconst (v := 0) hx hb dX7_parse_5 (by decide) ?_
  refine lv_istore_n (lv' := [(1, .int 0), (0, .ref tx)]) hx hb dX7_parse_6 rfl hl (by decide) rfl (fun ls hl => ?_)
  refine lv_iload_n hx hb dX7_parse_7 rfl (lv_at hl 0 rfl) ?_
  refine lv_aload_n hx hb dX7_parse_8 rfl (lv_at hl 1 rfl) ?_
  refine g_get C0 G k2 rfl hiX7 3 (by decide) mf_X7_28 rfl dX7_parse_9 ?_
  refine lv_icmp_ge (tgt := 105) hx hb dX7_parse_12 (by decide) (fun _ => ?_) (fun c3 => absurd (by decide) c3)
  refine lv_aload_n hx hb dX7_parse_105 rfl (lv_at hl 1 rfl) ?_
  refine g_get C0 G k2 rfl hiX7 3 (by decide) mf_X7_28 rfl dX7_parse_106 ?_
  refine lv_if_ne (tgt := 116) hx hb dX7_parse_109 (by decide) (fun c4 => absurd (by decide) c4) (fun _ => ?_)
  refine lv_iconst (v := 0) hx hb dX7_parse_112 (by decide) ?_
  refine lv_goto (tgt := 117) hx hb dX7_parse_113 (by decide) ?_
  exact g_iret C0 G hr dX7_parse_117 (Nat.le_of_ble_eq_true rfl) (Nat.le_of_ble_eq_true rfl) (by exact ⟨rfl, hf1⟩)
set_option maxRecDepth 100000 in
theorem k_X8_append {l : Launch} (hfl : l.stackTraces = false) {D : va_G} {cy : Nat → ClassId} {f : Hf} {sz : Nat} {sc m0 m1 lg sv tx r0 r1 : Nat} {ea ra kr : Int32} {bf tn tp : Nat}  (ch : Int32) (h_sc : f sc = some (.inr (10, [.ref m0, .ref m1, .ref lg, .ref sv, .ref tx, .ref r0, .ref r1, .int ea, .int ra, .int kr]))) (h_tx : f tx = some (.inr (9, [.ref bf, .ref tn, .ref tp, .int 0, .int 0]))) (h_bf : f bf = some (.inl (cy 1, 60, .inl (fun _ => 0)))) : hMet l yX8_append cX8_append 2 (some .int) { frames := 6, cells := 1, slots := 6, locals := 82 } D (hTy cy) f sz [.ref sc, .int ch] (hQi (fun r u => r = 1 ∧ (32 ≤ ch ∧ ch ≤ 126) ∧ hFrL f u [tx, bf]) D f sz) (fun E u => E = "java/lang/IllegalArgumentException" ∧ ¬ (32 ≤ ch ∧ ch ≤ 126) ∧ u = f) := by
  refine h_enter (by decide) hfl (Nat.le_of_ble_eq_true rfl) ?_
  intro p9 e9 s9 m9 b9 t9 c9 hsz C0 hr hnm G ls hl
  have hx := C0.1.1
  have hb := C0.1.2.1
  have Gz := G
  have hl : lv_has ls 2 [(0, .ref sc), (1, .int ch)] := hl
  refine lv_iload_n hx hb dX8_append_0 rfl (lv_at hl 1 rfl) ?_
  refine lv_bipush (v := 32) hx hb dX8_append_1 (by decide) ?_
  refine lv_bipush (v := 126) hx hb dX8_append_3 (by decide) ?_
  refine g_cI C0 G (g_runS C0 G (rest := []) (k_X8_isWithin hfl ch 32 126) hY_X8_isWithin mm_X8_56 ms_X8_isWithin ⟨(Nat.le_of_ble_eq_true rfl), (Nat.le_of_ble_eq_true rfl)⟩ rfl hl.1 rfl (Nat.le_of_ble_eq_true rfl) dX8_append_5 ⟨(Nat.le_of_ble_eq_true rfl), (Nat.le_of_ble_eq_true rfl)⟩) (kx_no rfl) (fun r3 u2 H locs hp1 G => ?_)
  obtain ⟨b4, eu2⟩ := hp1
  rw [eu2] at G
  rcases b4 with ⟨rfl, c5⟩ | ⟨rfl, c5⟩
  · refine lv_if_ne (tgt := 21) hx hb dX8_append_8 (by decide) (fun _ => ?_) (fun c6 => absurd c6 (by decide))
    refine lv_aload_n hx hb dX8_append_21 rfl (lv_at hl 0 rfl) ?_
    refine g_get C0 G h_sc rfl hiX8 4 (by decide) mf_X8_32 rfl dX8_append_22 ?_
    refine g_cI C0 G (g_runV C0 G (rest := []) (k_X7_isFull hfl h_tx h_bf) h_tx rfl hY_X7_isFull mm_X8_151 mi_X7_isFull ml_X7_isFull ⟨(Nat.le_of_ble_eq_true rfl), (Nat.le_of_ble_eq_true rfl)⟩ rfl hl.1 rfl (Nat.le_of_ble_eq_true rfl) dX8_append_25 ⟨(Nat.le_of_ble_eq_true rfl), (Nat.le_of_ble_eq_true rfl)⟩) (kx_no rfl) (fun r9 u8 H locs hp7 G => ?_)
    obtain ⟨b10, eu8⟩ := hp7
    rw [eu8] at G
    rcases b10 with ⟨rfl, c11⟩ | ⟨rfl, c11⟩
    · exact absurd c11 (by decide)
    refine lv_if_eq (tgt := 41) hx hb dX8_append_28 (by decide) (fun _ => ?_) (fun c12 => absurd (by decide) c12)
    refine lv_aload_n hx hb dX8_append_41 rfl (lv_at hl 0 rfl) ?_
    refine g_get C0 G h_sc rfl hiX8 4 (by decide) mf_X8_32 rfl dX8_append_42 ?_
    refine lv_iload_n hx hb dX8_append_45 rfl (lv_at hl 1 rfl) ?_
    refine g_cI C0 G (g_runV C0 G (rest := []) (k_X7_put0 hfl ch h_tx h_bf) h_tx rfl hY_X7_put mm_X8_160 mi_X7_put ml_X7_put ⟨(Nat.le_of_ble_eq_true rfl), (Nat.le_of_ble_eq_true rfl)⟩ rfl hl.1 rfl (Nat.le_of_ble_eq_true rfl) dX8_append_46 ⟨(Nat.le_of_ble_eq_true rfl), (Nat.le_of_ble_eq_true rfl)⟩) (kx_no rfl) (fun r15 u14 H locs hp13 G => ?_)
    obtain ⟨rfl, fr16⟩ := hp13
    exact g_iret C0 G hr dX8_append_49 (Nat.le_of_ble_eq_true rfl) (Nat.le_of_ble_eq_true rfl) (by exact ⟨rfl, (by first | (simp_all; done) | (simp only [Int32.lt_iff_toInt_lt, Int32.le_iff_toInt_le] at *; omega)), fun a9 e9 h7 h8 => fr16 _ _ (fun q => h7 (by simp only [List.mem_cons, List.not_mem_nil, or_false] at q ⊢; omega)) (h8)⟩)
  · refine lv_if_ne (tgt := 21) hx hb dX8_append_8 (by decide) (fun c18 => absurd (by decide) c18) (fun _ => ?_)
    exact g_throw C0 G (X := "java/lang/IllegalArgumentException") (by decide) mk_X8_60 mz_java_lang_IllegalArgumentException (is := 149) (text := "character out of range") (by decide) hat_64 hl.1 dX8_append_11 dX8_append_14 dX8_append_15 dX8_append_17 dX8_append_20 ⟨(Nat.le_of_ble_eq_true rfl), (Nat.le_of_ble_eq_true rfl)⟩ ⟨(Nat.le_of_ble_eq_true rfl), (Nat.le_of_ble_eq_true rfl)⟩ (Nat.le_of_ble_eq_true rfl) (Nat.le_of_ble_eq_true rfl) (by exact ⟨rfl, (by first | (simp_all; done) | (simp only [Int32.lt_iff_toInt_lt, Int32.le_iff_toInt_le] at *; omega)), rfl⟩)
set_option maxRecDepth 100000 in
theorem k_X8_play {l : Launch} (hfl : l.stackTraces = false) {D : va_G} {cy : Nat → ClassId} {f : Hf} {sz : Nat} {sc m0 m1 lg sv tx r0 r1 : Nat} {ea ra kr : Int32} {bf tn tp : Nat} (h_sc : f sc = some (.inr (10, [.ref m0, .ref m1, .ref lg, .ref sv, .ref tx, .ref r0, .ref r1, .int ea, .int ra, .int kr]))) (h_tx : f tx = some (.inr (9, [.ref bf, .ref tn, .ref tp, .int 0, .int 0]))) : hMet l yX8_play cX8_play 3 (some .int) { frames := 6, cells := 1, slots := 6, locals := 82 } D (hTy cy) f sz [.ref sc] (hQi (fun r u => False) D f sz) (fun E u => E = "java/lang/IllegalArgumentException" ∧ hFrL f u [sc, tx]) := by
  refine h_enter (by decide) hfl (Nat.le_of_ble_eq_true rfl) ?_
  intro p9 e9 s9 m9 b9 t9 c9 hsz C0 hr hnm G ls hl
  have hx := C0.1.1
  have hb := C0.1.2.1
  have Gz := G
  have hl : lv_has ls 3 [(0, .ref sc)] := hl
  refine lv_aload_n hx hb dX8_play_0 rfl (lv_at hl 0 rfl) ?_
  refine g_get C0 G h_sc rfl hiX8 4 (by decide) mf_X8_32 rfl dX8_play_1 ?_
  refine g_cI C0 G (g_runV C0 G (rest := []) (k_X7_parse0 hfl h_tx) h_tx rfl hY_X7_parse mm_X8_164 mi_X7_parse ml_X7_parse ⟨(Nat.le_of_ble_eq_true rfl), (Nat.le_of_ble_eq_true rfl)⟩ rfl hl.1 rfl (Nat.le_of_ble_eq_true rfl) dX8_play_4 ⟨(Nat.le_of_ble_eq_true rfl), (Nat.le_of_ble_eq_true rfl)⟩) (kx_no rfl) (fun r3 u2 H locs hp1 G => ?_)
  obtain ⟨rfl, e4⟩ := hp1
  have k5 : u2 tx = some (.inr (9, [.ref bf, .ref tn, .ref tp, .int 0, .int 0])) := hus e4
  refine lv_istore_n (lv' := [(1, .int 0), (0, .ref sc)]) hx hb dX8_play_7 rfl hl (by decide) rfl (fun ls hl => ?_)
  refine lv_aload_n hx hb dX8_play_8 rfl (lv_at hl 1 rfl) ?_
  have k6 : u2 sc = some (.inr (10, [.ref m0, .ref m1, .ref lg, .ref sv, .ref tx, .ref r0, .ref r1, .int ea, .int ra, .int kr])) := hup e4 (hne h_sc h_tx (by intro q; cases q)) h_sc
  refine g_get C0 G k6 rfl hiX8 4 (by decide) mf_X8_32 rfl dX8_play_9 ?_
  refine g_cV C0 G (g_runV C0 G (rest := []) (k_X7_clear hfl k5) k5 rfl hY_X7_clear mm_X8_168 mi_X7_clear ml_X7_clear ⟨(Nat.le_of_ble_eq_true rfl), (Nat.le_of_ble_eq_true rfl)⟩ rfl hl.1 rfl (Nat.le_of_ble_eq_true rfl) dX8_play_12 ⟨(Nat.le_of_ble_eq_true rfl), (Nat.le_of_ble_eq_true rfl)⟩) (kx_no rfl) (fun u8 H locs hp7 G => ?_)
  have k9 : u8 tx = some (.inr (9, [.ref bf, .ref tn, .ref tp, .int 0, .int 0])) := hus hp7
  refine lv_iload_n hx hb dX8_play_15 rfl (lv_at hl 0 rfl) ?_
  refine lv_if_lt (tgt := 34) hx hb dX8_play_16 (by decide) (fun c10 => absurd c10 (by decide)) (fun _ => ?_)
  refine lv_aload_n hx hb dX8_play_19 rfl (lv_at hl 1 rfl) ?_
  refine lv_iload_n hx hb dX8_play_20 rfl (lv_at hl 0 rfl) ?_
  have k11 : u8 sc = some (.inr (10, [.ref m0, .ref m1, .ref lg, .ref sv, .ref tx, .ref r0, .ref r1, .int ea, .int ra, .int kr])) := hup hp7 (hne k6 k5 (by intro q; cases q)) k6
  refine g_put C0 G k11 rfl hiX8 tyX8 tyX8_ok nmX8 7 (by decide) mf_X8_46 rfl rfl rfl rfl (Nat.le_of_ble_eq_true rfl) dX8_play_21 (fun H locs f12 hf12 G => ?_)
  have k13 : f12 sc = some (.inr (10, [.ref m0, .ref m1, .ref lg, .ref sv, .ref tx, .ref r0, .ref r1, .int 0, .int ra, .int kr])) := hus hf12
  exact g_throw C0 G (X := "java/lang/IllegalArgumentException") (by decide) mk_X8_60 mz_java_lang_IllegalArgumentException (is := 171) (text := "the text is malformed") (by decide) hat_64 hl.1 dX8_play_24 dX8_play_27 dX8_play_28 dX8_play_30 dX8_play_33 ⟨(Nat.le_of_ble_eq_true rfl), (Nat.le_of_ble_eq_true rfl)⟩ ⟨(Nat.le_of_ble_eq_true rfl), (Nat.le_of_ble_eq_true rfl)⟩ (Nat.le_of_ble_eq_true rfl) (Nat.le_of_ble_eq_true rfl) (by exact ⟨rfl, fun a9 e9 h7 h8 => hup hf12 (fun q => h7 (by rw [q]; simp)) (hup hp7 (fun q => h7 (by rw [q]; simp)) (hup e4 (fun q => h7 (by rw [q]; simp)) (h8)))⟩)
set_option maxRecDepth 100000 in
theorem k_X8_errorPosition {l : Launch} (hfl : l.stackTraces = false) {D : va_G} {cy : Nat → ClassId} {f : Hf} {sz : Nat} {sc m0 m1 lg sv tx r0 r1 : Nat} (h_sc : f sc = some (.inr (10, [.ref m0, .ref m1, .ref lg, .ref sv, .ref tx, .ref r0, .ref r1, .int (-1), .int (-1), .int 0]))) : hMet l yX8_errorPosition cX8_errorPosition 1 (some .int) { frames := 6, cells := 1, slots := 6, locals := 82 } D (hTy cy) f sz [.ref sc] (hQi (fun r u => False) D f sz) (fun E u => E = "java/util/NoSuchElementException" ∧ u = f) := by
  refine h_enter (by decide) hfl (Nat.le_of_ble_eq_true rfl) ?_
  intro p9 e9 s9 m9 b9 t9 c9 hsz C0 hr hnm G ls hl
  have hx := C0.1.1
  have hb := C0.1.2.1
  have Gz := G
  have hl : lv_has ls 1 [(0, .ref sc)] := hl
  refine lv_aload_n hx hb dX8_errorPosition_0 rfl (lv_at hl 0 rfl) ?_
  refine g_get C0 G h_sc rfl hiX8 7 (by decide) mf_X8_46 rfl dX8_errorPosition_1 ?_
  refine lv_if_ge (tgt := 17) hx hb dX8_errorPosition_4 (by decide) (fun c1 => absurd c1 (by decide)) (fun _ => ?_)
  exact g_throwN C0 G mk_X8_185 mz_java_util_NoSuchElementException (is := 187) (text := "no text was malformed") (by decide) hl.1 dX8_errorPosition_7 dX8_errorPosition_10 ⟨dX8_errorPosition_11, dX8_errorPosition_13, dX8_errorPosition_16⟩ ⟨(Nat.le_of_ble_eq_true rfl), (Nat.le_of_ble_eq_true rfl)⟩ ⟨(Nat.le_of_ble_eq_true rfl), (Nat.le_of_ble_eq_true rfl)⟩ (Nat.le_of_ble_eq_true rfl) (Nat.le_of_ble_eq_true rfl) (by exact ⟨rfl, rfl⟩)
set_option maxRecDepth 100000 in
theorem k_X8_refused {l : Launch} (hfl : l.stackTraces = false) {D : va_G} {cy : Nat → ClassId} {f : Hf} {sz : Nat} {sc m0 m1 lg sv tx r0 r1 : Nat} (h_sc : f sc = some (.inr (10, [.ref m0, .ref m1, .ref lg, .ref sv, .ref tx, .ref r0, .ref r1, .int (-1), .int (-1), .int 0]))) : hMet l yX8_refused cX8_refused 1 (some .int) { frames := 6, cells := 1, slots := 6, locals := 82 } D (hTy cy) f sz [.ref sc] (hQi (fun r u => False) D f sz) (fun E u => E = "java/util/NoSuchElementException" ∧ u = f) := by
  refine h_enter (by decide) hfl (Nat.le_of_ble_eq_true rfl) ?_
  intro p9 e9 s9 m9 b9 t9 c9 hsz C0 hr hnm G ls hl
  have hx := C0.1.1
  have hb := C0.1.2.1
  have Gz := G
  have hl : lv_has ls 1 [(0, .ref sc)] := hl
  refine lv_aload_n hx hb dX8_refused_0 rfl (lv_at hl 0 rfl) ?_
  refine g_get C0 G h_sc rfl hiX8 8 (by decide) mf_X8_50 rfl dX8_refused_1 ?_
  refine lv_if_ge (tgt := 17) hx hb dX8_refused_4 (by decide) (fun c1 => absurd c1 (by decide)) (fun _ => ?_)
  exact g_throwN C0 G mk_X8_185 mz_java_util_NoSuchElementException (is := 190) (text := "no element was refused") (by decide) hl.1 dX8_refused_7 dX8_refused_10 ⟨dX8_refused_11, dX8_refused_13, dX8_refused_16⟩ ⟨(Nat.le_of_ble_eq_true rfl), (Nat.le_of_ble_eq_true rfl)⟩ ⟨(Nat.le_of_ble_eq_true rfl), (Nat.le_of_ble_eq_true rfl)⟩ (Nat.le_of_ble_eq_true rfl) (Nat.le_of_ble_eq_true rfl) (by exact ⟨rfl, rfl⟩)
set_option maxRecDepth 100000 in
theorem k_X8_reason {l : Launch} (hfl : l.stackTraces = false) {D : va_G} {cy : Nat → ClassId} {f : Hf} {sz : Nat} {sc m0 m1 lg sv tx r0 r1 : Nat} (h_sc : f sc = some (.inr (10, [.ref m0, .ref m1, .ref lg, .ref sv, .ref tx, .ref r0, .ref r1, .int (-1), .int (-1), .int 0]))) : hMet l yX8_reason cX8_reason 1 (some .int) { frames := 0, cells := 0, slots := 0, locals := 0 } D (hTy cy) f sz [.ref sc] (hQi (fun r u => r = 0 ∧ u = f) D f sz) hNo := by
  refine h_enter (by decide) hfl (Nat.le_of_ble_eq_true rfl) ?_
  intro p9 e9 s9 m9 b9 t9 c9 hsz C0 hr hnm G ls hl
  have hx := C0.1.1
  have hb := C0.1.2.1
  have Gz := G
  have hl : lv_has ls 1 [(0, .ref sc)] := hl
  refine lv_aload_n hx hb dX8_reason_0 rfl (lv_at hl 0 rfl) ?_
  refine g_get C0 G h_sc rfl hiX8 9 (by decide) mf_X8_53 rfl dX8_reason_1 ?_
  exact g_iret C0 G hr dX8_reason_4 (Nat.le_of_ble_eq_true rfl) (Nat.le_of_ble_eq_true rfl) (by exact ⟨rfl, rfl⟩)
set_option maxRecDepth 100000 in
theorem k_X8_commandCount {l : Launch} (hfl : l.stackTraces = false) {D : va_G} {cy : Nat → ClassId} {f : Hf} {sz : Nat} {sc m0 m1 lg sv tx r0 r1 : Nat} {ea ra kr : Int32} {ln lst len : Nat} (h_sc : f sc = some (.inr (10, [.ref m0, .ref m1, .ref lg, .ref sv, .ref tx, .ref r0, .ref r1, .int ea, .int ra, .int kr]))) (h_lg : f lg = some (.inr (3, [.ref ln, .ref lst, .ref len, .int 0, .int 0, .int 0, .int 0, .int 0, .int 0]))) : hMet l yX8_commandCount cX8_commandCount 1 (some .int) { frames := 0, cells := 0, slots := 0, locals := 0 } D (hTy cy) f sz [.ref sc] (hQi (fun r u => r = 0 ∧ u = f) D f sz) hNo := by
  refine h_enter (by decide) hfl (Nat.le_of_ble_eq_true rfl) ?_
  intro p9 e9 s9 m9 b9 t9 c9 hsz C0 hr hnm G ls hl
  have hx := C0.1.1
  have hb := C0.1.2.1
  have Gz := G
  have hl : lv_has ls 1 [(0, .ref sc)] := hl
  refine lv_aload_n hx hb dX8_commandCount_0 rfl (lv_at hl 0 rfl) ?_
  refine g_get C0 G h_sc rfl hiX8 2 (by decide) mf_X8_22 rfl dX8_commandCount_1 ?_
  refine g_get C0 G h_lg rfl hiX1 7 (by decide) mf_X8_314 rfl dX8_commandCount_4 ?_
  exact g_iret C0 G hr dX8_commandCount_7 (Nat.le_of_ble_eq_true rfl) (Nat.le_of_ble_eq_true rfl) (by exact ⟨rfl, rfl⟩)
set_option maxRecDepth 100000 in
theorem k_X8_result {l : Launch} (hfl : l.stackTraces = false) {D : va_G} {cy : Nat → ClassId} {f : Hf} {sz : Nat} {sc m0 m1 lg sv tx r0 r1 : Nat} {ea ra kr : Int32} {al : Nat} (h_sc : f sc = some (.inr (10, [.ref m0, .ref m1, .ref lg, .ref sv, .ref tx, .ref r0, .ref r1, .int ea, .int ra, .int kr]))) (h_m0 : f m0 = some (.inr (4, [.ref al, .int 0, .int 0, .int 0, .int 0, .int 0]))) : hMet l yX8_result cX8_result 1 (some .int) { frames := 1, cells := 0, slots := 0, locals := 21 } D (hTy cy) f sz [.ref sc] (hQi (fun r u => r = 0 ∧ u = f) D f sz) hNo := by
  refine h_enter (by decide) hfl (Nat.le_of_ble_eq_true rfl) ?_
  intro p9 e9 s9 m9 b9 t9 c9 hsz C0 hr hnm G ls hl
  have hx := C0.1.1
  have hb := C0.1.2.1
  have Gz := G
  have hl : lv_has ls 1 [(0, .ref sc)] := hl
  refine lv_aload_n hx hb dX8_result_0 rfl (lv_at hl 0 rfl) ?_
  refine g_get C0 G h_sc rfl hiX8 0 (by decide) mf_X8_10 rfl dX8_result_1 ?_
  refine g_cI C0 G (g_runV C0 G (rest := []) (k_X2_outcome0 hfl h_m0) h_m0 rfl hY_X2_outcome mm_X8_265 mi_X2_outcome ml_X2_outcome ⟨(Nat.le_of_ble_eq_true rfl), (Nat.le_of_ble_eq_true rfl)⟩ rfl hl.1 rfl (Nat.le_of_ble_eq_true rfl) dX8_result_4 ⟨(Nat.le_of_ble_eq_true rfl), (Nat.le_of_ble_eq_true rfl)⟩) (kx_no rfl) (fun r3 u2 H locs hp1 G => ?_)
  obtain ⟨rfl, eu2⟩ := hp1
  rw [eu2] at G
  exact g_iret C0 G hr dX8_result_7 (Nat.le_of_ble_eq_true rfl) (Nat.le_of_ble_eq_true rfl) (by exact ⟨rfl, rfl⟩)
set_option maxRecDepth 100000 in
theorem k_X8_demandMatch0 {l : Launch} (hfl : l.stackTraces = false) {D : va_G} {cy : Nat → ClassId} {f : Hf} {sz : Nat} {sc m0 m1 lg sv tx r0 r1 : Nat} {ea ra kr : Int32} {ln lst len : Nat} (h_sc : f sc = some (.inr (10, [.ref m0, .ref m1, .ref lg, .ref sv, .ref tx, .ref r0, .ref r1, .int ea, .int ra, .int kr]))) (h_lg : f lg = some (.inr (3, [.ref ln, .ref lst, .ref len, .int 0, .int 0, .int 0, .int 0, .int 0, .int 0]))) : hMet l yX8_demandMatch cX8_demandMatch 1 none { frames := 6, cells := 1, slots := 6, locals := 82 } D (hTy cy) f sz [.ref sc] (hQv (fun u => False) D f sz) (fun E u => E = "java/lang/IllegalStateException" ∧ u = va_up f sc (some (.inr (10, [.ref m0, .ref m1, .ref lg, .ref sv, .ref tx, .ref r0, .ref r1, .int ea, .int ra, .int 1])))) := by
  refine h_enter (by decide) hfl (Nat.le_of_ble_eq_true rfl) ?_
  intro p9 e9 s9 m9 b9 t9 c9 hsz C0 hr hnm G ls hl
  have hx := C0.1.1
  have hb := C0.1.2.1
  have Gz := G
  have hl : lv_has ls 1 [(0, .ref sc)] := hl
  refine lv_aload_n hx hb dX8_demandMatch_0 rfl (lv_at hl 0 rfl) ?_
  refine g_get C0 G h_sc rfl hiX8 2 (by decide) mf_X8_22 rfl dX8_demandMatch_1 ?_
  refine g_cI C0 G (g_runV C0 G (rest := []) (k_X1_hasMatch hfl h_lg) h_lg rfl hY_X1_hasMatch mm_X8_332 mi_X1_hasMatch ml_X1_hasMatch ⟨(Nat.le_of_ble_eq_true rfl), (Nat.le_of_ble_eq_true rfl)⟩ rfl hl.1 rfl (Nat.le_of_ble_eq_true rfl) dX8_demandMatch_4 ⟨(Nat.le_of_ble_eq_true rfl), (Nat.le_of_ble_eq_true rfl)⟩) (kx_no rfl) (fun r3 u2 H locs hp1 G => ?_)
  obtain ⟨b4, eu2⟩ := hp1
  rw [eu2] at G
  rcases b4 with ⟨rfl, c5⟩ | ⟨rfl, c5⟩
  · exact absurd c5 (by decide)
  refine lv_if_ne (tgt := 26) hx hb dX8_demandMatch_7 (by decide) (fun c6 => absurd (by decide) c6) (fun _ => ?_)
  refine lv_aload_n hx hb dX8_demandMatch_10 rfl (lv_at hl 0 rfl) ?_
  refine lv_iconst (v := 1) hx hb dX8_demandMatch_11 (by decide) ?_
  refine g_put C0 G h_sc rfl hiX8 tyX8 tyX8_ok nmX8 9 (by decide) mf_X8_53 rfl rfl rfl rfl (Nat.le_of_ble_eq_true rfl) dX8_demandMatch_12 (fun H locs f7 hf7 G => ?_)
  have k8 : f7 sc = some (.inr (10, [.ref m0, .ref m1, .ref lg, .ref sv, .ref tx, .ref r0, .ref r1, .int ea, .int ra, .int 1])) := hus hf7
  exact g_throwW C0 G (X := "java/lang/IllegalStateException") (by decide) mk_X8_131 mz_java_lang_IllegalStateException (is := 337) (text := "no match") (by decide) hat_135 hl.1 dX8_demandMatch_15 dX8_demandMatch_18 dX8_demandMatch_19 dX8_demandMatch_22 dX8_demandMatch_25 ⟨(Nat.le_of_ble_eq_true rfl), (Nat.le_of_ble_eq_true rfl)⟩ ⟨(Nat.le_of_ble_eq_true rfl), (Nat.le_of_ble_eq_true rfl)⟩ (Nat.le_of_ble_eq_true rfl) (Nat.le_of_ble_eq_true rfl) (by exact ⟨rfl, hf7⟩)
set_option maxRecDepth 100000 in
theorem k_X8_demandInnings0 {l : Launch} (hfl : l.stackTraces = false) {D : va_G} {cy : Nat → ClassId} {f : Hf} {sz : Nat} {sc m0 m1 lg sv tx r0 r1 : Nat} {ea ra kr : Int32} {al : Nat} (inn : Int32) (h_sc : f sc = some (.inr (10, [.ref m0, .ref m1, .ref lg, .ref sv, .ref tx, .ref r0, .ref r1, .int ea, .int ra, .int kr]))) (h_m0 : f m0 = some (.inr (4, [.ref al, .int 0, .int 0, .int 0, .int 0, .int 0]))) : hMet l yX8_demandInnings cX8_demandInnings 2 none { frames := 6, cells := 1, slots := 6, locals := 82 } D (hTy cy) f sz [.ref sc, .int inn] (hQv (fun u => False) D f sz) (fun E u => E = "java/lang/IndexOutOfBoundsException" ∧ u = f) := by
  refine h_enter (by decide) hfl (Nat.le_of_ble_eq_true rfl) ?_
  intro p9 e9 s9 m9 b9 t9 c9 hsz C0 hr hnm G ls hl
  have hx := C0.1.1
  have hb := C0.1.2.1
  have Gz := G
  have hl : lv_has ls 2 [(0, .ref sc), (1, .int inn)] := hl
  refine lv_aload_n hx hb dX8_demandInnings_0 rfl (lv_at hl 0 rfl) ?_
  refine g_get C0 G h_sc rfl hiX8 0 (by decide) mf_X8_10 rfl dX8_demandInnings_1 ?_
  refine lv_iload_n hx hb dX8_demandInnings_4 rfl (lv_at hl 1 rfl) ?_
  refine g_cI C0 G (g_runV C0 G (rest := []) (k_X2_hasBegun hfl inn h_m0) h_m0 rfl hY_X2_hasBegun mm_X8_339 mi_X2_hasBegun ml_X2_hasBegun ⟨(Nat.le_of_ble_eq_true rfl), (Nat.le_of_ble_eq_true rfl)⟩ rfl hl.1 rfl (Nat.le_of_ble_eq_true rfl) dX8_demandInnings_5 ⟨(Nat.le_of_ble_eq_true rfl), (Nat.le_of_ble_eq_true rfl)⟩) (kx_no rfl) (fun r3 u2 H locs hp1 G => ?_)
  obtain ⟨b4, eu2⟩ := hp1
  rw [eu2] at G
  rcases b4 with ⟨rfl, c5⟩ | ⟨rfl, c5⟩
  · exact absurd c5.1 (by decide)
  refine lv_if_ne (tgt := 22) hx hb dX8_demandInnings_8 (by decide) (fun c6 => absurd (by decide) c6) (fun _ => ?_)
  exact g_throwW C0 G (X := "java/lang/IndexOutOfBoundsException") (by decide) mk_X8_85 mz_java_lang_IndexOutOfBoundsException (is := 342) (text := "no such innings has begun") (by decide) hat_89 hl.1 dX8_demandInnings_11 dX8_demandInnings_14 dX8_demandInnings_15 dX8_demandInnings_18 dX8_demandInnings_21 ⟨(Nat.le_of_ble_eq_true rfl), (Nat.le_of_ble_eq_true rfl)⟩ ⟨(Nat.le_of_ble_eq_true rfl), (Nat.le_of_ble_eq_true rfl)⟩ (Nat.le_of_ble_eq_true rfl) (Nat.le_of_ble_eq_true rfl) (by exact ⟨rfl, rfl⟩)
set_option maxRecDepth 100000 in
theorem k_X8_demandPlayer0 {l : Launch} (hfl : l.stackTraces = false) {D : va_G} {cy : Nat → ClassId} {f : Hf} {sz : Nat} {sc m0 m1 lg sv tx r0 r1 : Nat} {ea ra kr : Int32} {al : Nat} (inn pl : Int32) (h_sc : f sc = some (.inr (10, [.ref m0, .ref m1, .ref lg, .ref sv, .ref tx, .ref r0, .ref r1, .int ea, .int ra, .int kr]))) (h_m0 : f m0 = some (.inr (4, [.ref al, .int 0, .int 0, .int 0, .int 0, .int 0]))) : hMet l yX8_demandPlayer cX8_demandPlayer 3 none { frames := 6, cells := 1, slots := 6, locals := 82 } D (hTy cy) f sz [.ref sc, .int inn, .int pl] (hQv (fun u => False) D f sz) (fun E u => E = "java/lang/IndexOutOfBoundsException" ∧ u = f) := by
  refine h_enter (by decide) hfl (Nat.le_of_ble_eq_true rfl) ?_
  intro p9 e9 s9 m9 b9 t9 c9 hsz C0 hr hnm G ls hl
  have hx := C0.1.1
  have hb := C0.1.2.1
  have Gz := G
  have hl : lv_has ls 3 [(0, .ref sc), (1, .int inn), (2, .int pl)] := hl
  refine lv_aload_n hx hb dX8_demandPlayer_0 rfl (lv_at hl 0 rfl) ?_
  refine g_get C0 G h_sc rfl hiX8 0 (by decide) mf_X8_10 rfl dX8_demandPlayer_1 ?_
  refine lv_iload_n hx hb dX8_demandPlayer_4 rfl (lv_at hl 1 rfl) ?_
  refine g_cI C0 G (g_runV C0 G (rest := []) (k_X2_hasBegun hfl inn h_m0) h_m0 rfl hY_X2_hasBegun mm_X8_339 mi_X2_hasBegun ml_X2_hasBegun ⟨(Nat.le_of_ble_eq_true rfl), (Nat.le_of_ble_eq_true rfl)⟩ rfl hl.1 rfl (Nat.le_of_ble_eq_true rfl) dX8_demandPlayer_5 ⟨(Nat.le_of_ble_eq_true rfl), (Nat.le_of_ble_eq_true rfl)⟩) (kx_no rfl) (fun r3 u2 H locs hp1 G => ?_)
  obtain ⟨b4, eu2⟩ := hp1
  rw [eu2] at G
  rcases b4 with ⟨rfl, c5⟩ | ⟨rfl, c5⟩
  · exact absurd c5.1 (by decide)
  refine lv_if_eq (tgt := 18) hx hb dX8_demandPlayer_8 (by decide) (fun _ => ?_) (fun c6 => absurd (by decide) c6)
  exact g_throwW C0 G (X := "java/lang/IndexOutOfBoundsException") (by decide) mk_X8_85 mz_java_lang_IndexOutOfBoundsException (is := 344) (text := "no such innings has begun, or no such player") (by decide) hat_89 hl.1 dX8_demandPlayer_18 dX8_demandPlayer_21 dX8_demandPlayer_22 dX8_demandPlayer_25 dX8_demandPlayer_28 ⟨(Nat.le_of_ble_eq_true rfl), (Nat.le_of_ble_eq_true rfl)⟩ ⟨(Nat.le_of_ble_eq_true rfl), (Nat.le_of_ble_eq_true rfl)⟩ (Nat.le_of_ble_eq_true rfl) (Nat.le_of_ble_eq_true rfl) (by exact ⟨rfl, rfl⟩)
set_option maxRecDepth 100000 in
theorem k_X8_demandRow {l : Launch} (hfl : l.stackTraces = false) {D : va_G} {cy : Nat → ClassId} {f : Hf} {sz : Nat} (row : Int32)  : hMet l yX8_demandRow cX8_demandRow 1 none { frames := 6, cells := 1, slots := 6, locals := 82 } D (hTy cy) f sz [.int row] (hQv (fun u => (0 ≤ row ∧ row ≤ 1) ∧ u = f) D f sz) (fun E u => E = "java/lang/IndexOutOfBoundsException" ∧ ¬ (0 ≤ row ∧ row ≤ 1) ∧ u = f) := by
  refine h_enter (by decide) hfl (Nat.le_of_ble_eq_true rfl) ?_
  intro p9 e9 s9 m9 b9 t9 c9 hsz C0 hr hnm G ls hl
  have hx := C0.1.1
  have hb := C0.1.2.1
  have hl : lv_has ls 1 [(0, .int row)] := hl
  refine lv_iload_n hx hb dX8_demandRow_0 rfl (lv_at hl 0 rfl) ?_
  refine lv_iconst (v := 0) hx hb dX8_demandRow_1 (by decide) ?_
  refine lv_iconst (v := 1) hx hb dX8_demandRow_2 (by decide) ?_
  refine g_cI C0 G (g_runS C0 G (rest := []) (k_X8_isWithin hfl row 0 1) hY_X8_isWithin mm_X8_56 ms_X8_isWithin ⟨(Nat.le_of_ble_eq_true rfl), (Nat.le_of_ble_eq_true rfl)⟩ rfl hl.1 rfl (Nat.le_of_ble_eq_true rfl) dX8_demandRow_3 ⟨(Nat.le_of_ble_eq_true rfl), (Nat.le_of_ble_eq_true rfl)⟩) (kx_no rfl) (fun r3 u2 H locs hp1 G => ?_)
  obtain ⟨b4, eu2⟩ := hp1
  rw [eu2] at G
  rcases b4 with ⟨rfl, c5⟩ | ⟨rfl, c5⟩
  · refine lv_if_ne (tgt := 20) hx hb dX8_demandRow_6 (by decide) (fun _ => ?_) (fun c6 => absurd c6 (by decide))
    exact g_vret C0 G hr dX8_demandRow_20 (Nat.le_of_ble_eq_true rfl) (Nat.le_of_ble_eq_true rfl) (by exact ⟨(by first | (simp_all; done) | (simp only [Int32.lt_iff_toInt_lt, Int32.le_iff_toInt_le] at *; omega)), rfl⟩)
  · refine lv_if_ne (tgt := 20) hx hb dX8_demandRow_6 (by decide) (fun c7 => absurd (by decide) c7) (fun _ => ?_)
    exact g_throwW C0 G (X := "java/lang/IndexOutOfBoundsException") (by decide) mk_X8_85 mz_java_lang_IndexOutOfBoundsException (is := 346) (text := "no such row") (by decide) hat_89 hl.1 dX8_demandRow_9 dX8_demandRow_12 dX8_demandRow_13 dX8_demandRow_16 dX8_demandRow_19 ⟨(Nat.le_of_ble_eq_true rfl), (Nat.le_of_ble_eq_true rfl)⟩ ⟨(Nat.le_of_ble_eq_true rfl), (Nat.le_of_ble_eq_true rfl)⟩ (Nat.le_of_ble_eq_true rfl) (Nat.le_of_ble_eq_true rfl) (by exact ⟨rfl, (by first | (simp_all; done) | (simp only [Int32.lt_iff_toInt_lt, Int32.le_iff_toInt_le] at *; omega)), rfl⟩)
set_option maxRecDepth 100000 in
theorem k_X8_rowAt {l : Launch} (hfl : l.stackTraces = false) {D : va_G} {cy : Nat → ClassId} {f : Hf} {sz : Nat} {sc m0 m1 lg sv tx r0 r1 : Nat} {ea ra kr : Int32} (row : Int32) (h_sc : f sc = some (.inr (10, [.ref m0, .ref m1, .ref lg, .ref sv, .ref tx, .ref r0, .ref r1, .int ea, .int ra, .int kr]))) : hMet l yX8_rowAt cX8_rowAt 2 (some (.object "WicketScorer$Row")) { frames := 0, cells := 0, slots := 0, locals := 0 } D (hTy cy) f sz [.ref sc, .int row] (hQr (fun a u => ((row = 0 ∧ a = r0) ∨ (¬ row = 0 ∧ a = r1)) ∧ u = f) D f sz) hNo := by
  refine h_enter (by decide) hfl (Nat.le_of_ble_eq_true rfl) ?_
  intro p9 e9 s9 m9 b9 t9 c9 hsz C0 hr hnm G ls hl
  have hx := C0.1.1
  have hb := C0.1.2.1
  have hl : lv_has ls 2 [(0, .ref sc), (1, .int row)] := hl
  refine lv_iload_n hx hb dX8_rowAt_0 rfl (lv_at hl 1 rfl) ?_
  refine lv_if_ne (tgt := 11) hx hb dX8_rowAt_1 (by decide) (fun c1 => ?_) (fun c1 => ?_)
  · refine lv_aload_n hx hb dX8_rowAt_11 rfl (lv_at hl 0 rfl) ?_
    refine g_get C0 G h_sc rfl hiX8 6 (by decide) mf_X8_43 rfl dX8_rowAt_12 ?_
    exact g_aret C0 G hr dX8_rowAt_15 (Nat.le_of_ble_eq_true rfl) (Nat.le_of_ble_eq_true rfl) (by refine ⟨?_, rfl⟩; first | exact Or.inl ⟨by assumption, rfl⟩ | exact Or.inr ⟨by assumption, rfl⟩)
  · refine lv_aload_n hx hb dX8_rowAt_4 rfl (lv_at hl 0 rfl) ?_
    refine g_get C0 G h_sc rfl hiX8 5 (by decide) mf_X8_39 rfl dX8_rowAt_5 ?_
    refine lv_goto (tgt := 15) hx hb dX8_rowAt_8 (by decide) ?_
    exact g_aret C0 G hr dX8_rowAt_15 (Nat.le_of_ble_eq_true rfl) (Nat.le_of_ble_eq_true rfl) (by refine ⟨?_, rfl⟩; first | exact Or.inl ⟨by assumption, rfl⟩ | exact Or.inr ⟨by assumption, rfl⟩)
set_option maxRecDepth 100000 in
theorem k_X4_has0 {l : Launch} (hfl : l.stackTraces = false) {D : va_G} {cy : Nat → ClassId} {f : Hf} {sz : Nat} {rw re : Nat} {ix ln9 : Int32} (k9 : Int32) (h_r : f rw = some (.inr (6, [.ref re, .int 0, .int ix, .int ln9]))) : hMet l yX4_has cX4_has 2 (some .boolean) { frames := 0, cells := 0, slots := 0, locals := 0 } D (hTy cy) f sz [.ref rw, .int k9] (hQi (fun r u => r = 0 ∧ u = f) D f sz) hNo := by
  refine h_enter (by decide) hfl (Nat.le_of_ble_eq_true rfl) ?_
  intro p9 e9 s9 m9 b9 t9 c9 hsz C0 hr hnm G ls hl
  have hx := C0.1.1
  have hb := C0.1.2.1
  have hl : lv_has ls 2 [(0, .ref rw), (1, .int k9)] := hl
  refine lv_aload_n hx hb dX4_has_0 rfl (lv_at hl 0 rfl) ?_
  refine g_get C0 G h_r rfl hiX4 1 (by decide) mf_X4_15 rfl dX4_has_1 ?_
  refine lv_if_eq (tgt := 23) hx hb dX4_has_4 (by decide) (fun _ => ?_) (fun c1 => absurd (by decide) c1)
  refine lv_iconst (v := 0) hx hb dX4_has_23 (by decide) ?_
  exact g_zret C0 G hr dX4_has_24 rfl (Nat.le_of_ble_eq_true rfl) (Nat.le_of_ble_eq_true rfl) (by exact ⟨rfl, rfl⟩)
set_option maxRecDepth 100000 in
theorem k_X8_now {l : Launch} (hfl : l.stackTraces = false) {D : va_G} {cy : Nat → ClassId} {f : Hf} {sz : Nat} {sc m0 m1 lg sv tx r0 r1 : Nat} {ea ra kr : Int32} {ln lst len : Nat} (wh : Int32) (h_sc : f sc = some (.inr (10, [.ref m0, .ref m1, .ref lg, .ref sv, .ref tx, .ref r0, .ref r1, .int ea, .int ra, .int kr]))) (h_lg : f lg = some (.inr (3, [.ref ln, .ref lst, .ref len, .int 0, .int 0, .int 0, .int 0, .int 0, .int 0]))) : hMet l yX8_now cX8_now 2 (some .int) { frames := 7, cells := 1, slots := 6, locals := 102 } D (hTy cy) f sz [.ref sc, .int wh] (hQi (fun r u => False) D f sz) (fun E u => ((E = "java/lang/IllegalArgumentException" ∧ ¬ (0 ≤ wh ∧ wh ≤ 8)) ∨ (E = "java/lang/IllegalStateException" ∧ (0 ≤ wh ∧ wh ≤ 8))) ∧ hFr f u sc) := by
  refine h_enter (by decide) hfl (Nat.le_of_ble_eq_true rfl) ?_
  intro p9 e9 s9 m9 b9 t9 c9 hsz C0 hr hnm G ls hl
  have hx := C0.1.1
  have hb := C0.1.2.1
  have Gz := G
  have hl : lv_has ls 2 [(0, .ref sc), (1, .int wh)] := hl
  refine lv_iload_n hx hb dX8_now_0 rfl (lv_at hl 1 rfl) ?_
  refine lv_iconst (v := 0) hx hb dX8_now_1 (by decide) ?_
  refine lv_bipush (v := 8) hx hb dX8_now_2 (by decide) ?_
  refine g_cI C0 G (g_runS C0 G (rest := []) (k_X8_isWithin hfl wh 0 8) hY_X8_isWithin mm_X8_56 ms_X8_isWithin ⟨(Nat.le_of_ble_eq_true rfl), (Nat.le_of_ble_eq_true rfl)⟩ rfl hl.1 rfl (Nat.le_of_ble_eq_true rfl) dX8_now_4 ⟨(Nat.le_of_ble_eq_true rfl), (Nat.le_of_ble_eq_true rfl)⟩) (kx_no rfl) (fun r3 u2 H locs hp1 G => ?_)
  obtain ⟨b4, eu2⟩ := hp1
  rw [eu2] at G
  rcases b4 with ⟨rfl, c5⟩ | ⟨rfl, c5⟩
  · refine lv_if_ne (tgt := 20) hx hb dX8_now_7 (by decide) (fun _ => ?_) (fun c6 => absurd c6 (by decide))
    refine lv_aload_n hx hb dX8_now_20 rfl (lv_at hl 0 rfl) ?_
    have fz7 : hFr f f sc := (fun a9 e9 h7 h8 => by have h6 := (Gz.1 _ _ h8).1.lt; rw [hsz] at h6; exact h8)
    exact g_cV C0 G (g_runV C0 G (rest := []) (k_X8_demandMatch0 hfl  h_sc h_lg) h_sc rfl hY_X8_demandMatch mm_X8_194 mi_X8_demandMatch ml_X8_demandMatch ⟨(Nat.le_of_ble_eq_true rfl), (Nat.le_of_ble_eq_true rfl)⟩ rfl hl.1 rfl (Nat.le_of_ble_eq_true rfl) dX8_now_21 ⟨(Nat.le_of_ble_eq_true rfl), (Nat.le_of_ble_eq_true rfl)⟩) (kx_out C0 (Nat.le_of_ble_eq_true rfl) (Nat.le_of_ble_eq_true rfl) (fun E u h => by obtain ⟨h1, h2⟩ := h; exact ⟨Or.inr ⟨h1, (by first | (simp_all; done) | (simp only [Int32.lt_iff_toInt_lt, Int32.le_iff_toInt_le] at *; omega))⟩, (by rw [h2]; intro a9 e9 h7 h8; rw [va_up_ne _ _ h7]; exact fz7 _ _ h7 h8)⟩)) (fun _ _ _ h _ => h.elim)
  · refine lv_if_ne (tgt := 20) hx hb dX8_now_7 (by decide) (fun c8 => absurd (by decide) c8) (fun _ => ?_)
    exact g_throw C0 G (X := "java/lang/IllegalArgumentException") (by decide) mk_X8_60 mz_java_lang_IllegalArgumentException (is := 192) (text := "no such number") (by decide) hat_64 hl.1 dX8_now_10 dX8_now_13 dX8_now_14 dX8_now_16 dX8_now_19 ⟨(Nat.le_of_ble_eq_true rfl), (Nat.le_of_ble_eq_true rfl)⟩ ⟨(Nat.le_of_ble_eq_true rfl), (Nat.le_of_ble_eq_true rfl)⟩ (Nat.le_of_ble_eq_true rfl) (Nat.le_of_ble_eq_true rfl) (by exact ⟨Or.inl ⟨rfl, (by first | (simp_all; done) | (simp only [Int32.lt_iff_toInt_lt, Int32.le_iff_toInt_le] at *; omega))⟩, (fun a9 e9 h7 h8 => by have h6 := (Gz.1 _ _ h8).1.lt; rw [hsz] at h6; exact h8)⟩)
set_option maxRecDepth 100000 in
theorem k_X8_innings {l : Launch} (hfl : l.stackTraces = false) {D : va_G} {cy : Nat → ClassId} {f : Hf} {sz : Nat} {sc m0 m1 lg sv tx r0 r1 : Nat} {ea ra kr : Int32} {al : Nat} (inn wh : Int32) (h_sc : f sc = some (.inr (10, [.ref m0, .ref m1, .ref lg, .ref sv, .ref tx, .ref r0, .ref r1, .int ea, .int ra, .int kr]))) (h_m0 : f m0 = some (.inr (4, [.ref al, .int 0, .int 0, .int 0, .int 0, .int 0]))) : hMet l yX8_innings cX8_innings 3 (some .int) { frames := 7, cells := 1, slots := 6, locals := 103 } D (hTy cy) f sz [.ref sc, .int inn, .int wh] (hQi (fun r u => False) D f sz) (fun E u => E = "java/lang/IndexOutOfBoundsException" ∧ u = f) := by
  refine h_enter (by decide) hfl (Nat.le_of_ble_eq_true rfl) ?_
  intro p9 e9 s9 m9 b9 t9 c9 hsz C0 hr hnm G ls hl
  have hx := C0.1.1
  have hb := C0.1.2.1
  have Gz := G
  have hl : lv_has ls 3 [(0, .ref sc), (1, .int inn), (2, .int wh)] := hl
  refine lv_aload_n hx hb dX8_innings_0 rfl (lv_at hl 0 rfl) ?_
  refine lv_iload_n hx hb dX8_innings_1 rfl (lv_at hl 1 rfl) ?_
  exact g_cV C0 G (g_runV C0 G (rest := []) (k_X8_demandInnings0 hfl inn h_sc h_m0) h_sc rfl hY_X8_demandInnings mm_X8_200 mi_X8_demandInnings ml_X8_demandInnings ⟨(Nat.le_of_ble_eq_true rfl), (Nat.le_of_ble_eq_true rfl)⟩ rfl hl.1 rfl (Nat.le_of_ble_eq_true rfl) dX8_innings_2 ⟨(Nat.le_of_ble_eq_true rfl), (Nat.le_of_ble_eq_true rfl)⟩) (kx_out C0 (Nat.le_of_ble_eq_true rfl) (Nat.le_of_ble_eq_true rfl) (fun E u h => by obtain ⟨h1, h2⟩ := h; exact ⟨h1, h2⟩)) (fun _ _ _ h _ => h.elim)
set_option maxRecDepth 100000 in
theorem k_X8_batter {l : Launch} (hfl : l.stackTraces = false) {D : va_G} {cy : Nat → ClassId} {f : Hf} {sz : Nat} {sc m0 m1 lg sv tx r0 r1 : Nat} {ea ra kr : Int32} {al : Nat} (inn pl wh : Int32) (h_sc : f sc = some (.inr (10, [.ref m0, .ref m1, .ref lg, .ref sv, .ref tx, .ref r0, .ref r1, .int ea, .int ra, .int kr]))) (h_m0 : f m0 = some (.inr (4, [.ref al, .int 0, .int 0, .int 0, .int 0, .int 0]))) : hMet l yX8_batter cX8_batter 4 (some .int) { frames := 7, cells := 1, slots := 6, locals := 104 } D (hTy cy) f sz [.ref sc, .int inn, .int pl, .int wh] (hQi (fun r u => False) D f sz) (fun E u => E = "java/lang/IndexOutOfBoundsException" ∧ u = f) := by
  refine h_enter (by decide) hfl (Nat.le_of_ble_eq_true rfl) ?_
  intro p9 e9 s9 m9 b9 t9 c9 hsz C0 hr hnm G ls hl
  have hx := C0.1.1
  have hb := C0.1.2.1
  have Gz := G
  have hl : lv_has ls 4 [(0, .ref sc), (1, .int inn), (2, .int pl), (3, .int wh)] := hl
  refine lv_aload_n hx hb dX8_batter_0 rfl (lv_at hl 0 rfl) ?_
  refine lv_iload_n hx hb dX8_batter_1 rfl (lv_at hl 1 rfl) ?_
  refine lv_iload_n hx hb dX8_batter_2 rfl (lv_at hl 2 rfl) ?_
  exact g_cV C0 G (g_runV C0 G (rest := []) (k_X8_demandPlayer0 hfl inn pl h_sc h_m0) h_sc rfl hY_X8_demandPlayer mm_X8_213 mi_X8_demandPlayer ml_X8_demandPlayer ⟨(Nat.le_of_ble_eq_true rfl), (Nat.le_of_ble_eq_true rfl)⟩ rfl hl.1 rfl (Nat.le_of_ble_eq_true rfl) dX8_batter_3 ⟨(Nat.le_of_ble_eq_true rfl), (Nat.le_of_ble_eq_true rfl)⟩) (kx_out C0 (Nat.le_of_ble_eq_true rfl) (Nat.le_of_ble_eq_true rfl) (fun E u h => by obtain ⟨h1, h2⟩ := h; exact ⟨h1, h2⟩)) (fun _ _ _ h _ => h.elim)
set_option maxRecDepth 100000 in
theorem k_X8_bowler {l : Launch} (hfl : l.stackTraces = false) {D : va_G} {cy : Nat → ClassId} {f : Hf} {sz : Nat} {sc m0 m1 lg sv tx r0 r1 : Nat} {ea ra kr : Int32} {al : Nat} (inn pl wh : Int32) (h_sc : f sc = some (.inr (10, [.ref m0, .ref m1, .ref lg, .ref sv, .ref tx, .ref r0, .ref r1, .int ea, .int ra, .int kr]))) (h_m0 : f m0 = some (.inr (4, [.ref al, .int 0, .int 0, .int 0, .int 0, .int 0]))) : hMet l yX8_bowler cX8_bowler 4 (some .int) { frames := 7, cells := 1, slots := 6, locals := 104 } D (hTy cy) f sz [.ref sc, .int inn, .int pl, .int wh] (hQi (fun r u => False) D f sz) (fun E u => E = "java/lang/IndexOutOfBoundsException" ∧ u = f) := by
  refine h_enter (by decide) hfl (Nat.le_of_ble_eq_true rfl) ?_
  intro p9 e9 s9 m9 b9 t9 c9 hsz C0 hr hnm G ls hl
  have hx := C0.1.1
  have hb := C0.1.2.1
  have Gz := G
  have hl : lv_has ls 4 [(0, .ref sc), (1, .int inn), (2, .int pl), (3, .int wh)] := hl
  refine lv_aload_n hx hb dX8_bowler_0 rfl (lv_at hl 0 rfl) ?_
  refine lv_iload_n hx hb dX8_bowler_1 rfl (lv_at hl 1 rfl) ?_
  refine lv_iload_n hx hb dX8_bowler_2 rfl (lv_at hl 2 rfl) ?_
  exact g_cV C0 G (g_runV C0 G (rest := []) (k_X8_demandPlayer0 hfl inn pl h_sc h_m0) h_sc rfl hY_X8_demandPlayer mm_X8_213 mi_X8_demandPlayer ml_X8_demandPlayer ⟨(Nat.le_of_ble_eq_true rfl), (Nat.le_of_ble_eq_true rfl)⟩ rfl hl.1 rfl (Nat.le_of_ble_eq_true rfl) dX8_bowler_3 ⟨(Nat.le_of_ble_eq_true rfl), (Nat.le_of_ble_eq_true rfl)⟩) (kx_out C0 (Nat.le_of_ble_eq_true rfl) (Nat.le_of_ble_eq_true rfl) (fun E u h => by obtain ⟨h1, h2⟩ := h; exact ⟨h1, h2⟩)) (fun _ _ _ h _ => h.elim)
set_option maxRecDepth 100000 in
theorem k_X8_partnership {l : Launch} (hfl : l.stackTraces = false) {D : va_G} {cy : Nat → ClassId} {f : Hf} {sz : Nat} {sc m0 m1 lg sv tx r0 r1 : Nat} {ea ra kr : Int32} {al : Nat} (inn ix wh : Int32) (h_sc : f sc = some (.inr (10, [.ref m0, .ref m1, .ref lg, .ref sv, .ref tx, .ref r0, .ref r1, .int ea, .int ra, .int kr]))) (h_m0 : f m0 = some (.inr (4, [.ref al, .int 0, .int 0, .int 0, .int 0, .int 0]))) : hMet l yX8_partnership cX8_partnership 4 (some .int) { frames := 7, cells := 1, slots := 6, locals := 103 } D (hTy cy) f sz [.ref sc, .int inn, .int ix, .int wh] (hQi (fun r u => False) D f sz) (fun E u => E = "java/lang/IndexOutOfBoundsException" ∧ u = f) := by
  refine h_enter (by decide) hfl (Nat.le_of_ble_eq_true rfl) ?_
  intro p9 e9 s9 m9 b9 t9 c9 hsz C0 hr hnm G ls hl
  have hx := C0.1.1
  have hb := C0.1.2.1
  have Gz := G
  have hl : lv_has ls 4 [(0, .ref sc), (1, .int inn), (2, .int ix), (3, .int wh)] := hl
  refine lv_aload_n hx hb dX8_partnership_0 rfl (lv_at hl 0 rfl) ?_
  refine lv_iload_n hx hb dX8_partnership_1 rfl (lv_at hl 1 rfl) ?_
  exact g_cV C0 G (g_runV C0 G (rest := []) (k_X8_demandInnings0 hfl inn h_sc h_m0) h_sc rfl hY_X8_demandInnings mm_X8_200 mi_X8_demandInnings ml_X8_demandInnings ⟨(Nat.le_of_ble_eq_true rfl), (Nat.le_of_ble_eq_true rfl)⟩ rfl hl.1 rfl (Nat.le_of_ble_eq_true rfl) dX8_partnership_2 ⟨(Nat.le_of_ble_eq_true rfl), (Nat.le_of_ble_eq_true rfl)⟩) (kx_out C0 (Nat.le_of_ble_eq_true rfl) (Nat.le_of_ble_eq_true rfl) (fun E u h => by obtain ⟨h1, h2⟩ := h; exact ⟨h1, h2⟩)) (fun _ _ _ h _ => h.elim)
set_option maxRecDepth 100000 in
theorem k_X8_fall {l : Launch} (hfl : l.stackTraces = false) {D : va_G} {cy : Nat → ClassId} {f : Hf} {sz : Nat} {sc m0 m1 lg sv tx r0 r1 : Nat} {ea ra kr : Int32} {al : Nat} (inn ix wh : Int32) (h_sc : f sc = some (.inr (10, [.ref m0, .ref m1, .ref lg, .ref sv, .ref tx, .ref r0, .ref r1, .int ea, .int ra, .int kr]))) (h_m0 : f m0 = some (.inr (4, [.ref al, .int 0, .int 0, .int 0, .int 0, .int 0]))) : hMet l yX8_fall cX8_fall 4 (some .int) { frames := 7, cells := 1, slots := 6, locals := 103 } D (hTy cy) f sz [.ref sc, .int inn, .int ix, .int wh] (hQi (fun r u => False) D f sz) (fun E u => E = "java/lang/IndexOutOfBoundsException" ∧ u = f) := by
  refine h_enter (by decide) hfl (Nat.le_of_ble_eq_true rfl) ?_
  intro p9 e9 s9 m9 b9 t9 c9 hsz C0 hr hnm G ls hl
  have hx := C0.1.1
  have hb := C0.1.2.1
  have Gz := G
  have hl : lv_has ls 4 [(0, .ref sc), (1, .int inn), (2, .int ix), (3, .int wh)] := hl
  refine lv_aload_n hx hb dX8_fall_0 rfl (lv_at hl 0 rfl) ?_
  refine lv_iload_n hx hb dX8_fall_1 rfl (lv_at hl 1 rfl) ?_
  exact g_cV C0 G (g_runV C0 G (rest := []) (k_X8_demandInnings0 hfl inn h_sc h_m0) h_sc rfl hY_X8_demandInnings mm_X8_200 mi_X8_demandInnings ml_X8_demandInnings ⟨(Nat.le_of_ble_eq_true rfl), (Nat.le_of_ble_eq_true rfl)⟩ rfl hl.1 rfl (Nat.le_of_ble_eq_true rfl) dX8_fall_2 ⟨(Nat.le_of_ble_eq_true rfl), (Nat.le_of_ble_eq_true rfl)⟩) (kx_out C0 (Nat.le_of_ble_eq_true rfl) (Nat.le_of_ble_eq_true rfl) (fun E u h => by obtain ⟨h1, h2⟩ := h; exact ⟨h1, h2⟩)) (fun _ _ _ h _ => h.elim)
set_option maxRecDepth 100000 in
theorem k_X8_strikeRate {l : Launch} (hfl : l.stackTraces = false) {D : va_G} {cy : Nat → ClassId} {f : Hf} {sz : Nat} {sc m0 m1 lg sv tx r0 r1 : Nat} {ea ra kr : Int32} {al : Nat} (inn pl : Int32) (h_sc : f sc = some (.inr (10, [.ref m0, .ref m1, .ref lg, .ref sv, .ref tx, .ref r0, .ref r1, .int ea, .int ra, .int kr]))) (h_m0 : f m0 = some (.inr (4, [.ref al, .int 0, .int 0, .int 0, .int 0, .int 0]))) : hMet l yX8_strikeRate cX8_strikeRate 5 (some .float) { frames := 7, cells := 1, slots := 6, locals := 104 } D (hTy cy) f sz [.ref sc, .int inn, .int pl] (hQf (fun r u => False) D f sz) (fun E u => E = "java/lang/IndexOutOfBoundsException" ∧ u = f) := by
  refine h_enter (by decide) hfl (Nat.le_of_ble_eq_true rfl) ?_
  intro p9 e9 s9 m9 b9 t9 c9 hsz C0 hr hnm G ls hl
  have hx := C0.1.1
  have hb := C0.1.2.1
  have Gz := G
  have hl : lv_has ls 5 [(0, .ref sc), (1, .int inn), (2, .int pl)] := hl
  refine lv_aload_n hx hb dX8_strikeRate_0 rfl (lv_at hl 0 rfl) ?_
  refine lv_iload_n hx hb dX8_strikeRate_1 rfl (lv_at hl 1 rfl) ?_
  refine lv_iload_n hx hb dX8_strikeRate_2 rfl (lv_at hl 2 rfl) ?_
  exact g_cV C0 G (g_runV C0 G (rest := []) (k_X8_demandPlayer0 hfl inn pl h_sc h_m0) h_sc rfl hY_X8_demandPlayer mm_X8_213 mi_X8_demandPlayer ml_X8_demandPlayer ⟨(Nat.le_of_ble_eq_true rfl), (Nat.le_of_ble_eq_true rfl)⟩ rfl hl.1 rfl (Nat.le_of_ble_eq_true rfl) dX8_strikeRate_3 ⟨(Nat.le_of_ble_eq_true rfl), (Nat.le_of_ble_eq_true rfl)⟩) (kx_out C0 (Nat.le_of_ble_eq_true rfl) (Nat.le_of_ble_eq_true rfl) (fun E u h => by obtain ⟨h1, h2⟩ := h; exact ⟨h1, h2⟩)) (fun _ _ _ h _ => h.elim)
set_option maxRecDepth 100000 in
theorem k_X8_runRate {l : Launch} (hfl : l.stackTraces = false) {D : va_G} {cy : Nat → ClassId} {f : Hf} {sz : Nat} {sc m0 m1 lg sv tx r0 r1 : Nat} {ea ra kr : Int32} {al : Nat} (inn : Int32) (h_sc : f sc = some (.inr (10, [.ref m0, .ref m1, .ref lg, .ref sv, .ref tx, .ref r0, .ref r1, .int ea, .int ra, .int kr]))) (h_m0 : f m0 = some (.inr (4, [.ref al, .int 0, .int 0, .int 0, .int 0, .int 0]))) : hMet l yX8_runRate cX8_runRate 3 (some .double) { frames := 7, cells := 1, slots := 6, locals := 103 } D (hTy cy) f sz [.ref sc, .int inn] (hQd (fun r u => False) D f sz) (fun E u => E = "java/lang/IndexOutOfBoundsException" ∧ u = f) := by
  refine h_enter (by decide) hfl (Nat.le_of_ble_eq_true rfl) ?_
  intro p9 e9 s9 m9 b9 t9 c9 hsz C0 hr hnm G ls hl
  have hx := C0.1.1
  have hb := C0.1.2.1
  have Gz := G
  have hl : lv_has ls 3 [(0, .ref sc), (1, .int inn)] := hl
  refine lv_aload_n hx hb dX8_runRate_0 rfl (lv_at hl 0 rfl) ?_
  refine lv_iload_n hx hb dX8_runRate_1 rfl (lv_at hl 1 rfl) ?_
  exact g_cV C0 G (g_runV C0 G (rest := []) (k_X8_demandInnings0 hfl inn h_sc h_m0) h_sc rfl hY_X8_demandInnings mm_X8_200 mi_X8_demandInnings ml_X8_demandInnings ⟨(Nat.le_of_ble_eq_true rfl), (Nat.le_of_ble_eq_true rfl)⟩ rfl hl.1 rfl (Nat.le_of_ble_eq_true rfl) dX8_runRate_2 ⟨(Nat.le_of_ble_eq_true rfl), (Nat.le_of_ble_eq_true rfl)⟩) (kx_out C0 (Nat.le_of_ble_eq_true rfl) (Nat.le_of_ble_eq_true rfl) (fun E u h => by obtain ⟨h1, h2⟩ := h; exact ⟨h1, h2⟩)) (fun _ _ _ h _ => h.elim)
set_option maxRecDepth 100000 in
theorem k_X8_needed {l : Launch} (hfl : l.stackTraces = false) {D : va_G} {cy : Nat → ClassId} {f : Hf} {sz : Nat} {sc m0 m1 lg sv tx r0 r1 : Nat} {ea ra kr : Int32} {ln lst len : Nat} (tg : Int32) (h_sc : f sc = some (.inr (10, [.ref m0, .ref m1, .ref lg, .ref sv, .ref tx, .ref r0, .ref r1, .int ea, .int ra, .int kr]))) (h_lg : f lg = some (.inr (3, [.ref ln, .ref lst, .ref len, .int 0, .int 0, .int 0, .int 0, .int 0, .int 0]))) (hb_tg : tg = 0 ∨ tg = 1) : hMet l yX8_needed cX8_needed 3 (some .int) { frames := 7, cells := 1, slots := 6, locals := 102 } D (hTy cy) f sz [.ref sc, .int tg] (hQi (fun r u => False) D f sz) (fun E u => E = "java/lang/IllegalStateException" ∧ hFr f u sc) := by
  refine h_enter (by decide) hfl (Nat.le_of_ble_eq_true rfl) ?_
  intro p9 e9 s9 m9 b9 t9 c9 hsz C0 hr hnm G ls hl
  have hx := C0.1.1
  have hb := C0.1.2.1
  have Gz := G
  have hl : lv_has ls 3 [(0, .ref sc), (1, .int tg)] := hl
  refine lv_aload_n hx hb dX8_needed_0 rfl (lv_at hl 0 rfl) ?_
  have fz1 : hFr f f sc := (fun a9 e9 h7 h8 => by have h6 := (Gz.1 _ _ h8).1.lt; rw [hsz] at h6; exact h8)
  exact g_cV C0 G (g_runV C0 G (rest := []) (k_X8_demandMatch0 hfl  h_sc h_lg) h_sc rfl hY_X8_demandMatch mm_X8_194 mi_X8_demandMatch ml_X8_demandMatch ⟨(Nat.le_of_ble_eq_true rfl), (Nat.le_of_ble_eq_true rfl)⟩ rfl hl.1 rfl (Nat.le_of_ble_eq_true rfl) dX8_needed_1 ⟨(Nat.le_of_ble_eq_true rfl), (Nat.le_of_ble_eq_true rfl)⟩) (kx_out C0 (Nat.le_of_ble_eq_true rfl) (Nat.le_of_ble_eq_true rfl) (fun E u h => by obtain ⟨h1, h2⟩ := h; exact ⟨h1, (by rw [h2]; intro a9 e9 h7 h8; rw [va_up_ne _ _ h7]; exact fz1 _ _ h7 h8)⟩)) (fun _ _ _ h _ => h.elim)
set_option maxRecDepth 100000 in
theorem k_X8_isReplayed {l : Launch} (hfl : l.stackTraces = false) {D : va_G} {cy : Nat → ClassId} {f : Hf} {sz : Nat} {sc m0 m1 lg sv tx r0 r1 : Nat} {ea ra kr : Int32} {ln lst len : Nat} (h_sc : f sc = some (.inr (10, [.ref m0, .ref m1, .ref lg, .ref sv, .ref tx, .ref r0, .ref r1, .int ea, .int ra, .int kr]))) (h_lg : f lg = some (.inr (3, [.ref ln, .ref lst, .ref len, .int 0, .int 0, .int 0, .int 0, .int 0, .int 0]))) : hMet l yX8_isReplayed cX8_isReplayed 1 (some .boolean) { frames := 7, cells := 1, slots := 6, locals := 102 } D (hTy cy) f sz [.ref sc] (hQi (fun r u => False) D f sz) (fun E u => E = "java/lang/IllegalStateException" ∧ hFr f u sc) := by
  refine h_enter (by decide) hfl (Nat.le_of_ble_eq_true rfl) ?_
  intro p9 e9 s9 m9 b9 t9 c9 hsz C0 hr hnm G ls hl
  have hx := C0.1.1
  have hb := C0.1.2.1
  have Gz := G
  have hl : lv_has ls 1 [(0, .ref sc)] := hl
  refine lv_aload_n hx hb dX8_isReplayed_0 rfl (lv_at hl 0 rfl) ?_
  have fz1 : hFr f f sc := (fun a9 e9 h7 h8 => by have h6 := (Gz.1 _ _ h8).1.lt; rw [hsz] at h6; exact h8)
  exact g_cV C0 G (g_runV C0 G (rest := []) (k_X8_demandMatch0 hfl  h_sc h_lg) h_sc rfl hY_X8_demandMatch mm_X8_194 mi_X8_demandMatch ml_X8_demandMatch ⟨(Nat.le_of_ble_eq_true rfl), (Nat.le_of_ble_eq_true rfl)⟩ rfl hl.1 rfl (Nat.le_of_ble_eq_true rfl) dX8_isReplayed_1 ⟨(Nat.le_of_ble_eq_true rfl), (Nat.le_of_ble_eq_true rfl)⟩) (kx_out C0 (Nat.le_of_ble_eq_true rfl) (Nat.le_of_ble_eq_true rfl) (fun E u h => by obtain ⟨h1, h2⟩ := h; exact ⟨h1, (by rw [h2]; intro a9 e9 h7 h8; rw [va_up_ne _ _ h7]; exact fz1 _ _ h7 h8)⟩)) (fun _ _ _ h _ => h.elim)
set_option maxRecDepth 100000 in
theorem k_X8_snapshot {l : Launch} (hfl : l.stackTraces = false) {D : va_G} {cy : Nat → ClassId} {f : Hf} {sz : Nat} {sc m0 m1 lg sv tx r0 r1 : Nat} {ea ra kr : Int32} {ln lst len : Nat} (h_sc : f sc = some (.inr (10, [.ref m0, .ref m1, .ref lg, .ref sv, .ref tx, .ref r0, .ref r1, .int ea, .int ra, .int kr]))) (h_lg : f lg = some (.inr (3, [.ref ln, .ref lst, .ref len, .int 0, .int 0, .int 0, .int 0, .int 0, .int 0]))) : hMet l yX8_snapshot cX8_snapshot 1 (some .int) { frames := 7, cells := 1, slots := 6, locals := 102 } D (hTy cy) f sz [.ref sc] (hQi (fun r u => False) D f sz) (fun E u => E = "java/lang/IllegalStateException" ∧ hFr f u sc) := by
  refine h_enter (by decide) hfl (Nat.le_of_ble_eq_true rfl) ?_
  intro p9 e9 s9 m9 b9 t9 c9 hsz C0 hr hnm G ls hl
  have hx := C0.1.1
  have hb := C0.1.2.1
  have Gz := G
  have hl : lv_has ls 1 [(0, .ref sc)] := hl
  refine lv_aload_n hx hb dX8_snapshot_0 rfl (lv_at hl 0 rfl) ?_
  have fz1 : hFr f f sc := (fun a9 e9 h7 h8 => by have h6 := (Gz.1 _ _ h8).1.lt; rw [hsz] at h6; exact h8)
  exact g_cV C0 G (g_runV C0 G (rest := []) (k_X8_demandMatch0 hfl  h_sc h_lg) h_sc rfl hY_X8_demandMatch mm_X8_194 mi_X8_demandMatch ml_X8_demandMatch ⟨(Nat.le_of_ble_eq_true rfl), (Nat.le_of_ble_eq_true rfl)⟩ rfl hl.1 rfl (Nat.le_of_ble_eq_true rfl) dX8_snapshot_1 ⟨(Nat.le_of_ble_eq_true rfl), (Nat.le_of_ble_eq_true rfl)⟩) (kx_out C0 (Nat.le_of_ble_eq_true rfl) (Nat.le_of_ble_eq_true rfl) (fun E u h => by obtain ⟨h1, h2⟩ := h; exact ⟨h1, (by rw [h2]; intro a9 e9 h7 h8; rw [va_up_ne _ _ h7]; exact fz1 _ _ h7 h8)⟩)) (fun _ _ _ h _ => h.elim)
set_option maxRecDepth 100000 in
theorem k_X8_undo {l : Launch} (hfl : l.stackTraces = false) {D : va_G} {cy : Nat → ClassId} {f : Hf} {sz : Nat} {sc m0 m1 lg sv tx r0 r1 : Nat} {ea ra kr : Int32} {ln lst len : Nat} (h_sc : f sc = some (.inr (10, [.ref m0, .ref m1, .ref lg, .ref sv, .ref tx, .ref r0, .ref r1, .int ea, .int ra, .int kr]))) (h_lg : f lg = some (.inr (3, [.ref ln, .ref lst, .ref len, .int 0, .int 0, .int 0, .int 0, .int 0, .int 0]))) : hMet l yX8_undo cX8_undo 1 (some .int) { frames := 6, cells := 1, slots := 6, locals := 82 } D (hTy cy) f sz [.ref sc] (hQi (fun r u => False) D f sz) (fun E u => E = "java/lang/IllegalStateException" ∧ hFr f u sc) := by
  refine h_enter (by decide) hfl (Nat.le_of_ble_eq_true rfl) ?_
  intro p9 e9 s9 m9 b9 t9 c9 hsz C0 hr hnm G ls hl
  have hx := C0.1.1
  have hb := C0.1.2.1
  have Gz := G
  have hl : lv_has ls 1 [(0, .ref sc)] := hl
  refine lv_aload_n hx hb dX8_undo_0 rfl (lv_at hl 0 rfl) ?_
  refine g_get C0 G h_sc rfl hiX8 2 (by decide) mf_X8_22 rfl dX8_undo_1 ?_
  refine g_get C0 G h_lg rfl hiX1 8 (by decide) mf_X8_317 rfl dX8_undo_4 ?_
  refine lv_if_ne (tgt := 27) hx hb dX8_undo_7 (by decide) (fun c1 => absurd (by decide) c1) (fun _ => ?_)
  refine lv_aload_n hx hb dX8_undo_10 rfl (lv_at hl 0 rfl) ?_
  refine lv_bipush (v := 7) hx hb dX8_undo_11 (by decide) ?_
  refine g_put C0 G h_sc rfl hiX8 tyX8 tyX8_ok nmX8 9 (by decide) mf_X8_53 rfl rfl rfl rfl (Nat.le_of_ble_eq_true rfl) dX8_undo_13 (fun H locs f2 hf2 G => ?_)
  have k3 : f2 sc = some (.inr (10, [.ref m0, .ref m1, .ref lg, .ref sv, .ref tx, .ref r0, .ref r1, .int ea, .int ra, .int 7])) := hus hf2
  exact g_throwW C0 G (X := "java/lang/IllegalStateException") (by decide) mk_X8_131 mz_java_lang_IllegalStateException (is := 320) (text := "nothing to undo") (by decide) hat_135 hl.1 dX8_undo_16 dX8_undo_19 dX8_undo_20 dX8_undo_23 dX8_undo_26 ⟨(Nat.le_of_ble_eq_true rfl), (Nat.le_of_ble_eq_true rfl)⟩ ⟨(Nat.le_of_ble_eq_true rfl), (Nat.le_of_ble_eq_true rfl)⟩ (Nat.le_of_ble_eq_true rfl) (Nat.le_of_ble_eq_true rfl) (by exact ⟨rfl, (fun a9 e9 h7 h8 => by have h6 := (Gz.1 _ _ h8).1.lt; rw [hsz] at h6; exact hup hf2 h7 (h8))⟩)
set_option maxRecDepth 100000 in
theorem k_X8_restore {l : Launch} (hfl : l.stackTraces = false) {D : va_G} {cy : Nat → ClassId} {f : Hf} {sz : Nat} {sc m0 m1 lg sv tx r0 r1 : Nat} {ea ra kr : Int32} {sn sst sen : Nat} (h_sc : f sc = some (.inr (10, [.ref m0, .ref m1, .ref lg, .ref sv, .ref tx, .ref r0, .ref r1, .int ea, .int ra, .int kr]))) (h_sv : f sv = some (.inr (3, [.ref sn, .ref sst, .ref sen, .int 0, .int 0, .int 0, .int 0, .int 0, .int 0]))) : hMet l yX8_restore cX8_restore 1 (some .int) { frames := 6, cells := 1, slots := 6, locals := 82 } D (hTy cy) f sz [.ref sc] (hQi (fun r u => False) D f sz) (fun E u => E = "java/lang/IllegalStateException" ∧ hFr f u sc) := by
  refine h_enter (by decide) hfl (Nat.le_of_ble_eq_true rfl) ?_
  intro p9 e9 s9 m9 b9 t9 c9 hsz C0 hr hnm G ls hl
  have hx := C0.1.1
  have hb := C0.1.2.1
  have Gz := G
  have hl : lv_has ls 1 [(0, .ref sc)] := hl
  refine lv_aload_n hx hb dX8_restore_0 rfl (lv_at hl 0 rfl) ?_
  refine g_get C0 G h_sc rfl hiX8 3 (by decide) mf_X8_26 rfl dX8_restore_1 ?_
  refine g_cI C0 G (g_runV C0 G (rest := []) (k_X1_hasMatch hfl h_sv) h_sv rfl hY_X1_hasMatch mm_X8_332 mi_X1_hasMatch ml_X1_hasMatch ⟨(Nat.le_of_ble_eq_true rfl), (Nat.le_of_ble_eq_true rfl)⟩ rfl hl.1 rfl (Nat.le_of_ble_eq_true rfl) dX8_restore_4 ⟨(Nat.le_of_ble_eq_true rfl), (Nat.le_of_ble_eq_true rfl)⟩) (kx_no rfl) (fun r3 u2 H locs hp1 G => ?_)
  obtain ⟨b4, eu2⟩ := hp1
  rw [eu2] at G
  rcases b4 with ⟨rfl, c5⟩ | ⟨rfl, c5⟩
  · exact absurd c5 (by decide)
  refine lv_if_ne (tgt := 27) hx hb dX8_restore_7 (by decide) (fun c6 => absurd (by decide) c6) (fun _ => ?_)
  refine lv_aload_n hx hb dX8_restore_10 rfl (lv_at hl 0 rfl) ?_
  refine lv_bipush (v := 7) hx hb dX8_restore_11 (by decide) ?_
  refine g_put C0 G h_sc rfl hiX8 tyX8 tyX8_ok nmX8 9 (by decide) mf_X8_53 rfl rfl rfl rfl (Nat.le_of_ble_eq_true rfl) dX8_restore_13 (fun H locs f7 hf7 G => ?_)
  have k8 : f7 sc = some (.inr (10, [.ref m0, .ref m1, .ref lg, .ref sv, .ref tx, .ref r0, .ref r1, .int ea, .int ra, .int 7])) := hus hf7
  exact g_throwW C0 G (X := "java/lang/IllegalStateException") (by decide) mk_X8_131 mz_java_lang_IllegalStateException (is := 335) (text := "nothing to restore") (by decide) hat_135 hl.1 dX8_restore_16 dX8_restore_19 dX8_restore_20 dX8_restore_23 dX8_restore_26 ⟨(Nat.le_of_ble_eq_true rfl), (Nat.le_of_ble_eq_true rfl)⟩ ⟨(Nat.le_of_ble_eq_true rfl), (Nat.le_of_ble_eq_true rfl)⟩ (Nat.le_of_ble_eq_true rfl) (Nat.le_of_ble_eq_true rfl) (by exact ⟨rfl, (fun a9 e9 h7 h8 => by have h6 := (Gz.1 _ _ h8).1.lt; rw [hsz] at h6; exact hup hf7 h7 (h8))⟩)
set_option maxRecDepth 100000 in
theorem k_X8_storeOvers {l : Launch} (hfl : l.stackTraces = false) {D : va_G} {cy : Nat → ClassId} {f : Hf} {sz : Nat} {sc m0 m1 lg sv tx r0 r1 : Nat} {ea ra kr : Int32} {al : Nat} (row inn xa : Int32) (h_sc : f sc = some (.inr (10, [.ref m0, .ref m1, .ref lg, .ref sv, .ref tx, .ref r0, .ref r1, .int ea, .int ra, .int kr]))) (h_m0 : f m0 = some (.inr (4, [.ref al, .int 0, .int 0, .int 0, .int 0, .int 0]))) (hb_xa : xa = 0 ∨ xa = 1) : hMet l yX8_storeOvers cX8_storeOvers 4 (some .int) { frames := 7, cells := 2, slots := 12, locals := 103 } D (hTy cy) f sz [.ref sc, .int row, .int inn, .int xa] (hQi (fun r u => False) D f sz) (fun E u => E = "java/lang/IndexOutOfBoundsException" ∧ u = f) := by
  refine h_enter (by decide) hfl (Nat.le_of_ble_eq_true rfl) ?_
  intro p9 e9 s9 m9 b9 t9 c9 hsz C0 hr hnm G ls hl
  have hx := C0.1.1
  have hb := C0.1.2.1
  have Gz := G
  have hl : lv_has ls 4 [(0, .ref sc), (1, .int row), (2, .int inn), (3, .int xa)] := hl
  refine lv_iload_n hx hb dX8_storeOvers_0 rfl (lv_at hl 1 rfl) ?_
  refine g_cV C0 G (g_runS C0 G (rest := []) (k_X8_demandRow hfl row) hY_X8_demandRow mm_X8_275 ms_X8_demandRow ⟨(Nat.le_of_ble_eq_true rfl), (Nat.le_of_ble_eq_true rfl)⟩ rfl hl.1 rfl (Nat.le_of_ble_eq_true rfl) dX8_storeOvers_1 ⟨(Nat.le_of_ble_eq_true rfl), (Nat.le_of_ble_eq_true rfl)⟩) (kx_out C0 (Nat.le_of_ble_eq_true rfl) (Nat.le_of_ble_eq_true rfl) (fun E u h => by first | (obtain ⟨h1, h2, h3⟩ := h; exact ⟨h1, h3⟩) | exact h)) (fun u2 H locs hp1 G => ?_)
  obtain ⟨rw9, eu2⟩ := hp1
  rw [eu2] at G
  refine lv_aload_n hx hb dX8_storeOvers_4 rfl (lv_at hl 0 rfl) ?_
  refine lv_iload_n hx hb dX8_storeOvers_5 rfl (lv_at hl 2 rfl) ?_
  exact g_cV C0 G (g_runV C0 G (rest := []) (k_X8_demandInnings0 hfl inn h_sc h_m0) h_sc rfl hY_X8_demandInnings mm_X8_200 mi_X8_demandInnings ml_X8_demandInnings ⟨(Nat.le_of_ble_eq_true rfl), (Nat.le_of_ble_eq_true rfl)⟩ rfl hl.1 rfl (Nat.le_of_ble_eq_true rfl) dX8_storeOvers_6 ⟨(Nat.le_of_ble_eq_true rfl), (Nat.le_of_ble_eq_true rfl)⟩) (kx_out C0 (Nat.le_of_ble_eq_true rfl) (Nat.le_of_ble_eq_true rfl) (fun E u h => by first | (obtain ⟨h1, h2, h3⟩ := h; exact ⟨h1, h3⟩) | exact h)) (fun _ _ _ h _ => h.elim)
set_option maxRecDepth 100000 in
theorem k_X8_copyOvers {l : Launch} (hfl : l.stackTraces = false) {D : va_G} {cy : Nat → ClassId} {f : Hf} {sz : Nat} {sc m0 m1 lg sv tx r0 r1 : Nat} {ea ra kr : Int32} {r0e : Nat} {r1e : Nat} (row cnt : Int32) (h_sc : f sc = some (.inr (10, [.ref m0, .ref m1, .ref lg, .ref sv, .ref tx, .ref r0, .ref r1, .int ea, .int ra, .int kr]))) (h_r0 : f r0 = some (.inr (6, [.ref r0e, .int 0, .int 0, .int 0]))) (h_r1 : f r1 = some (.inr (6, [.ref r1e, .int 0, .int 0, .int 0]))) : hMet l yX8_copyOvers cX8_copyOvers 5 (some .boolean) { frames := 7, cells := 2, slots := 12, locals := 102 } D (hTy cy) f sz [.ref sc, .int row, .int cnt] (hQi (fun r u => False) D f sz) (fun E u => ((E = "java/lang/IndexOutOfBoundsException" ∧ ¬ (0 ≤ row ∧ row ≤ 1)) ∨ (E = "java/util/NoSuchElementException" ∧ (0 ≤ row ∧ row ≤ 1))) ∧ u = f) := by
  refine h_enter (by decide) hfl (Nat.le_of_ble_eq_true rfl) ?_
  intro p9 e9 s9 m9 b9 t9 c9 hsz C0 hr hnm G ls hl
  have hx := C0.1.1
  have hb := C0.1.2.1
  have Gz := G
  have hl : lv_has ls 5 [(0, .ref sc), (1, .int row), (2, .int cnt)] := hl
  refine lv_iload_n hx hb dX8_copyOvers_0 rfl (lv_at hl 1 rfl) ?_
  refine g_cV C0 G (g_runS C0 G (rest := []) (k_X8_demandRow hfl row) hY_X8_demandRow mm_X8_275 ms_X8_demandRow ⟨(Nat.le_of_ble_eq_true rfl), (Nat.le_of_ble_eq_true rfl)⟩ rfl hl.1 rfl (Nat.le_of_ble_eq_true rfl) dX8_copyOvers_1 ⟨(Nat.le_of_ble_eq_true rfl), (Nat.le_of_ble_eq_true rfl)⟩) (kx_out C0 (Nat.le_of_ble_eq_true rfl) (Nat.le_of_ble_eq_true rfl) (fun E u h => by obtain ⟨h1, h2, h3⟩ := h; exact ⟨Or.inl ⟨h1, h2⟩, h3⟩)) (fun u2 H locs hp1 G => ?_)
  obtain ⟨rw9, eu2⟩ := hp1
  rw [eu2] at G
  refine lv_aload_n hx hb dX8_copyOvers_4 rfl (lv_at hl 0 rfl) ?_
  refine lv_iload_n hx hb dX8_copyOvers_5 rfl (lv_at hl 1 rfl) ?_
  refine g_cR C0 G (g_runV C0 G (rest := []) (k_X8_rowAt hfl row h_sc) h_sc rfl hY_X8_rowAt mm_X8_278 mi_X8_rowAt ml_X8_rowAt ⟨(Nat.le_of_ble_eq_true rfl), (Nat.le_of_ble_eq_true rfl)⟩ rfl hl.1 rfl (Nat.le_of_ble_eq_true rfl) dX8_copyOvers_6 ⟨(Nat.le_of_ble_eq_true rfl), (Nat.le_of_ble_eq_true rfl)⟩) (kx_no rfl) (fun a5 u4 H locs hp3 G => ?_)
  obtain ⟨b6, eu4⟩ := hp3
  rw [eu4] at G
  rcases b6 with ⟨c7, q9⟩ | ⟨c7, q9⟩
  · rw [q9]
    refine lv_astore_n (lv' := [(3, .ref r0), (0, .ref sc), (1, .int row), (2, .int cnt)]) hx hb dX8_copyOvers_9 rfl hl (by decide) rfl (fun ls hl => ?_)
    refine lv_aload_n hx hb dX8_copyOvers_10 rfl (lv_at hl 1 rfl) ?_
    refine lv_iconst (v := 1) hx hb dX8_copyOvers_11 (by decide) ?_
    refine lv_iload_n hx hb dX8_copyOvers_12 rfl (lv_at hl 2 rfl) ?_
    refine lv_isub hx hb dX8_copyOvers_13 ?_
    refine g_cR C0 G (g_runV C0 G (rest := []) (k_X8_rowAt hfl (1 - row) h_sc) h_sc rfl hY_X8_rowAt mm_X8_278 mi_X8_rowAt ml_X8_rowAt ⟨(Nat.le_of_ble_eq_true rfl), (Nat.le_of_ble_eq_true rfl)⟩ rfl hl.1 rfl (Nat.le_of_ble_eq_true rfl) dX8_copyOvers_14 ⟨(Nat.le_of_ble_eq_true rfl), (Nat.le_of_ble_eq_true rfl)⟩) (kx_no rfl) (fun a10 u9 H locs hp8 G => ?_)
    obtain ⟨b11, eu9⟩ := hp8
    rw [eu9] at G
    rcases b11 with ⟨c12, q9⟩ | ⟨c12, q9⟩
    · rw [q9]
      refine lv_astore (lv' := [(4, .ref r0), (3, .ref r0), (0, .ref sc), (1, .int row), (2, .int cnt)]) hx hb dX8_copyOvers_17 hl (by decide) rfl (fun ls hl => ?_)
      refine lv_aload_n hx hb dX8_copyOvers_19 rfl (lv_at hl 1 rfl) ?_
      refine g_get C0 G h_r0 rfl hiX4 1 (by decide) mf_X8_286 rfl dX8_copyOvers_20 ?_
      refine lv_if_eq (tgt := 34) hx hb dX8_copyOvers_23 (by decide) (fun _ => ?_) (fun c13 => absurd (by decide) c13)
      exact g_throwNW C0 G mk_X8_185 mz_java_util_NoSuchElementException (is := 290) (text := "a row was not stored yet") (by decide) hl.1 dX8_copyOvers_34 dX8_copyOvers_37 ⟨dX8_copyOvers_38, dX8_copyOvers_41, dX8_copyOvers_44⟩ ⟨(Nat.le_of_ble_eq_true rfl), (Nat.le_of_ble_eq_true rfl)⟩ ⟨(Nat.le_of_ble_eq_true rfl), (Nat.le_of_ble_eq_true rfl)⟩ (Nat.le_of_ble_eq_true rfl) (Nat.le_of_ble_eq_true rfl) (by exact ⟨Or.inr ⟨rfl, rw9⟩, rfl⟩)
    · rw [q9]
      refine lv_astore (lv' := [(4, .ref r1), (3, .ref r0), (0, .ref sc), (1, .int row), (2, .int cnt)]) hx hb dX8_copyOvers_17 hl (by decide) rfl (fun ls hl => ?_)
      refine lv_aload_n hx hb dX8_copyOvers_19 rfl (lv_at hl 1 rfl) ?_
      refine g_get C0 G h_r0 rfl hiX4 1 (by decide) mf_X8_286 rfl dX8_copyOvers_20 ?_
      refine lv_if_eq (tgt := 34) hx hb dX8_copyOvers_23 (by decide) (fun _ => ?_) (fun c14 => absurd (by decide) c14)
      exact g_throwNW C0 G mk_X8_185 mz_java_util_NoSuchElementException (is := 290) (text := "a row was not stored yet") (by decide) hl.1 dX8_copyOvers_34 dX8_copyOvers_37 ⟨dX8_copyOvers_38, dX8_copyOvers_41, dX8_copyOvers_44⟩ ⟨(Nat.le_of_ble_eq_true rfl), (Nat.le_of_ble_eq_true rfl)⟩ ⟨(Nat.le_of_ble_eq_true rfl), (Nat.le_of_ble_eq_true rfl)⟩ (Nat.le_of_ble_eq_true rfl) (Nat.le_of_ble_eq_true rfl) (by exact ⟨Or.inr ⟨rfl, rw9⟩, rfl⟩)
  · rw [q9]
    refine lv_astore_n (lv' := [(3, .ref r1), (0, .ref sc), (1, .int row), (2, .int cnt)]) hx hb dX8_copyOvers_9 rfl hl (by decide) rfl (fun ls hl => ?_)
    refine lv_aload_n hx hb dX8_copyOvers_10 rfl (lv_at hl 1 rfl) ?_
    refine lv_iconst (v := 1) hx hb dX8_copyOvers_11 (by decide) ?_
    refine lv_iload_n hx hb dX8_copyOvers_12 rfl (lv_at hl 2 rfl) ?_
    refine lv_isub hx hb dX8_copyOvers_13 ?_
    refine g_cR C0 G (g_runV C0 G (rest := []) (k_X8_rowAt hfl (1 - row) h_sc) h_sc rfl hY_X8_rowAt mm_X8_278 mi_X8_rowAt ml_X8_rowAt ⟨(Nat.le_of_ble_eq_true rfl), (Nat.le_of_ble_eq_true rfl)⟩ rfl hl.1 rfl (Nat.le_of_ble_eq_true rfl) dX8_copyOvers_14 ⟨(Nat.le_of_ble_eq_true rfl), (Nat.le_of_ble_eq_true rfl)⟩) (kx_no rfl) (fun a17 u16 H locs hp15 G => ?_)
    obtain ⟨b18, eu16⟩ := hp15
    rw [eu16] at G
    rcases b18 with ⟨c19, q9⟩ | ⟨c19, q9⟩
    · rw [q9]
      refine lv_astore (lv' := [(4, .ref r0), (3, .ref r1), (0, .ref sc), (1, .int row), (2, .int cnt)]) hx hb dX8_copyOvers_17 hl (by decide) rfl (fun ls hl => ?_)
      refine lv_aload_n hx hb dX8_copyOvers_19 rfl (lv_at hl 1 rfl) ?_
      refine g_get C0 G h_r1 rfl hiX4 1 (by decide) mf_X8_286 rfl dX8_copyOvers_20 ?_
      refine lv_if_eq (tgt := 34) hx hb dX8_copyOvers_23 (by decide) (fun _ => ?_) (fun c20 => absurd (by decide) c20)
      exact g_throwNW C0 G mk_X8_185 mz_java_util_NoSuchElementException (is := 290) (text := "a row was not stored yet") (by decide) hl.1 dX8_copyOvers_34 dX8_copyOvers_37 ⟨dX8_copyOvers_38, dX8_copyOvers_41, dX8_copyOvers_44⟩ ⟨(Nat.le_of_ble_eq_true rfl), (Nat.le_of_ble_eq_true rfl)⟩ ⟨(Nat.le_of_ble_eq_true rfl), (Nat.le_of_ble_eq_true rfl)⟩ (Nat.le_of_ble_eq_true rfl) (Nat.le_of_ble_eq_true rfl) (by exact ⟨Or.inr ⟨rfl, rw9⟩, rfl⟩)
    · rw [q9]
      refine lv_astore (lv' := [(4, .ref r1), (3, .ref r1), (0, .ref sc), (1, .int row), (2, .int cnt)]) hx hb dX8_copyOvers_17 hl (by decide) rfl (fun ls hl => ?_)
      refine lv_aload_n hx hb dX8_copyOvers_19 rfl (lv_at hl 1 rfl) ?_
      refine g_get C0 G h_r1 rfl hiX4 1 (by decide) mf_X8_286 rfl dX8_copyOvers_20 ?_
      refine lv_if_eq (tgt := 34) hx hb dX8_copyOvers_23 (by decide) (fun _ => ?_) (fun c21 => absurd (by decide) c21)
      exact g_throwNW C0 G mk_X8_185 mz_java_util_NoSuchElementException (is := 290) (text := "a row was not stored yet") (by decide) hl.1 dX8_copyOvers_34 dX8_copyOvers_37 ⟨dX8_copyOvers_38, dX8_copyOvers_41, dX8_copyOvers_44⟩ ⟨(Nat.le_of_ble_eq_true rfl), (Nat.le_of_ble_eq_true rfl)⟩ ⟨(Nat.le_of_ble_eq_true rfl), (Nat.le_of_ble_eq_true rfl)⟩ (Nat.le_of_ble_eq_true rfl) (Nat.le_of_ble_eq_true rfl) (by exact ⟨Or.inr ⟨rfl, rw9⟩, rfl⟩)
set_option maxRecDepth 100000 in
theorem k_X8_storedOvers {l : Launch} (hfl : l.stackTraces = false) {D : va_G} {cy : Nat → ClassId} {f : Hf} {sz : Nat} {sc m0 m1 lg sv tx r0 r1 : Nat} {ea ra kr : Int32} {r0e : Nat} {r1e : Nat} (row ix : Int32) (h_sc : f sc = some (.inr (10, [.ref m0, .ref m1, .ref lg, .ref sv, .ref tx, .ref r0, .ref r1, .int ea, .int ra, .int kr]))) (h_r0 : f r0 = some (.inr (6, [.ref r0e, .int 0, .int 0, .int 0]))) (h_r1 : f r1 = some (.inr (6, [.ref r1e, .int 0, .int 0, .int 0]))) : hMet l yX8_storedOvers cX8_storedOvers 3 (some .float) { frames := 7, cells := 2, slots := 12, locals := 102 } D (hTy cy) f sz [.ref sc, .int row, .int ix] (hQf (fun r u => False) D f sz) (fun E u => ((E = "java/lang/IndexOutOfBoundsException" ∧ ¬ (0 ≤ row ∧ row ≤ 1)) ∨ (E = "java/util/NoSuchElementException" ∧ (0 ≤ row ∧ row ≤ 1))) ∧ u = f) := by
  refine h_enter (by decide) hfl (Nat.le_of_ble_eq_true rfl) ?_
  intro p9 e9 s9 m9 b9 t9 c9 hsz C0 hr hnm G ls hl
  have hx := C0.1.1
  have hb := C0.1.2.1
  have Gz := G
  have hl : lv_has ls 3 [(0, .ref sc), (1, .int row), (2, .int ix)] := hl
  refine lv_iload_n hx hb dX8_storedOvers_0 rfl (lv_at hl 1 rfl) ?_
  refine g_cV C0 G (g_runS C0 G (rest := []) (k_X8_demandRow hfl row) hY_X8_demandRow mm_X8_275 ms_X8_demandRow ⟨(Nat.le_of_ble_eq_true rfl), (Nat.le_of_ble_eq_true rfl)⟩ rfl hl.1 rfl (Nat.le_of_ble_eq_true rfl) dX8_storedOvers_1 ⟨(Nat.le_of_ble_eq_true rfl), (Nat.le_of_ble_eq_true rfl)⟩) (kx_out C0 (Nat.le_of_ble_eq_true rfl) (Nat.le_of_ble_eq_true rfl) (fun E u h => by obtain ⟨h1, h2, h3⟩ := h; exact ⟨Or.inl ⟨h1, h2⟩, h3⟩)) (fun u2 H locs hp1 G => ?_)
  obtain ⟨rw9, eu2⟩ := hp1
  rw [eu2] at G
  refine lv_aload_n hx hb dX8_storedOvers_4 rfl (lv_at hl 0 rfl) ?_
  refine lv_iload_n hx hb dX8_storedOvers_5 rfl (lv_at hl 1 rfl) ?_
  refine g_cR C0 G (g_runV C0 G (rest := []) (k_X8_rowAt hfl row h_sc) h_sc rfl hY_X8_rowAt mm_X8_278 mi_X8_rowAt ml_X8_rowAt ⟨(Nat.le_of_ble_eq_true rfl), (Nat.le_of_ble_eq_true rfl)⟩ rfl hl.1 rfl (Nat.le_of_ble_eq_true rfl) dX8_storedOvers_6 ⟨(Nat.le_of_ble_eq_true rfl), (Nat.le_of_ble_eq_true rfl)⟩) (kx_no rfl) (fun a5 u4 H locs hp3 G => ?_)
  obtain ⟨b6, eu4⟩ := hp3
  rw [eu4] at G
  rcases b6 with ⟨c7, q9⟩ | ⟨c7, q9⟩
  · rw [q9]
    refine lv_iload_n hx hb dX8_storedOvers_9 rfl (lv_at hl 2 rfl) ?_
    refine g_cI C0 G (g_runV C0 G (rest := []) (k_X4_has0 hfl ix h_r0) h_r0 rfl hY_X4_has mm_X8_306 mi_X4_has ml_X4_has ⟨(Nat.le_of_ble_eq_true rfl), (Nat.le_of_ble_eq_true rfl)⟩ rfl hl.1 rfl (Nat.le_of_ble_eq_true rfl) dX8_storedOvers_10 ⟨(Nat.le_of_ble_eq_true rfl), (Nat.le_of_ble_eq_true rfl)⟩) (kx_no rfl) (fun r10 u9 H locs hp8 G => ?_)
    obtain ⟨rfl, eu9⟩ := hp8
    rw [eu9] at G
    refine lv_if_ne (tgt := 27) hx hb dX8_storedOvers_13 (by decide) (fun c11 => absurd (by decide) c11) (fun _ => ?_)
    exact g_throwNW C0 G mk_X8_185 mz_java_util_NoSuchElementException (is := 309) (text := "no such element") (by decide) hl.1 dX8_storedOvers_16 dX8_storedOvers_19 ⟨dX8_storedOvers_20, dX8_storedOvers_23, dX8_storedOvers_26⟩ ⟨(Nat.le_of_ble_eq_true rfl), (Nat.le_of_ble_eq_true rfl)⟩ ⟨(Nat.le_of_ble_eq_true rfl), (Nat.le_of_ble_eq_true rfl)⟩ (Nat.le_of_ble_eq_true rfl) (Nat.le_of_ble_eq_true rfl) (by exact ⟨Or.inr ⟨rfl, rw9⟩, rfl⟩)
  · rw [q9]
    refine lv_iload_n hx hb dX8_storedOvers_9 rfl (lv_at hl 2 rfl) ?_
    refine g_cI C0 G (g_runV C0 G (rest := []) (k_X4_has0 hfl ix h_r1) h_r1 rfl hY_X4_has mm_X8_306 mi_X4_has ml_X4_has ⟨(Nat.le_of_ble_eq_true rfl), (Nat.le_of_ble_eq_true rfl)⟩ rfl hl.1 rfl (Nat.le_of_ble_eq_true rfl) dX8_storedOvers_10 ⟨(Nat.le_of_ble_eq_true rfl), (Nat.le_of_ble_eq_true rfl)⟩) (kx_no rfl) (fun r14 u13 H locs hp12 G => ?_)
    obtain ⟨rfl, eu13⟩ := hp12
    rw [eu13] at G
    refine lv_if_ne (tgt := 27) hx hb dX8_storedOvers_13 (by decide) (fun c15 => absurd (by decide) c15) (fun _ => ?_)
    exact g_throwNW C0 G mk_X8_185 mz_java_util_NoSuchElementException (is := 309) (text := "no such element") (by decide) hl.1 dX8_storedOvers_16 dX8_storedOvers_19 ⟨dX8_storedOvers_20, dX8_storedOvers_23, dX8_storedOvers_26⟩ ⟨(Nat.le_of_ble_eq_true rfl), (Nat.le_of_ble_eq_true rfl)⟩ ⟨(Nat.le_of_ble_eq_true rfl), (Nat.le_of_ble_eq_true rfl)⟩ (Nat.le_of_ble_eq_true rfl) (Nat.le_of_ble_eq_true rfl) (by exact ⟨Or.inr ⟨rfl, rw9⟩, rfl⟩)
