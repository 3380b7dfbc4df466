set_option maxRecDepth 100000 in
theorem k_X6_restart {l : Launch} (hfl : l.stackTraces = false) {D : va_G} {cy : Nat → ClassId} {f : Hf} {sz : Nat} {t c n C : Nat} (R : Nat) {rows : Int32} {g : Nat → Int32} (h_t : f t = some (.inr (8, [.int (nI C), .ref c, .int rows]))) (h_c : f c = some (.inl (cy 0, n, .inl g))) (hr1 : R * C ≤ n) (hn : n < 1048576) (hr9 : R < 65536) (hC : C < 64) : hMet l yX6_restart cX6_restart 3 none { frames := 1, cells := 0, slots := 0, locals := 22 } D (hTy cy) f sz [.ref t, .int (nI R)] (hQv (fun u => u = va_up (va_up f t (some (.inr (8, [.int (nI C), .ref c, .int (nI R)])))) c (some (.inl (cy 0, n, .inl (zf g 0 (R * C)))))) D f sz) hNo := by
  refine h_enter (by decide) hfl (Nat.le_of_ble_eq_true rfl) ?_
  intro p9 e9 s9 m9 b9 t9 c9 hsz C0 hr hnm G ls hl
  have hx := C0.1.1
  have hb := C0.1.2.1
  have hl : lv_has ls 3 [(0, .ref t), (1, .int (nI R))] := hl
  refine lv_aload_n hx hb dX6_restart_0 rfl (lv_at hl 0 rfl) ?_
  refine lv_iconst (v := 0) hx hb dX6_restart_1 (by decide) ?_
  refine g_put C0 G h_t rfl hiX6 tyX6 tyX6_ok nmX6 2 (by decide) mf_X6_7 rfl rfl rfl rfl (Nat.le_of_ble_eq_true rfl) dX6_restart_2 (fun H locs f1 hf1 G => ?_)
  have k2 : f1 t = some (.inr (8, [.int (nI C), .ref c, .int 0])) := hus hf1
  refine lv_iconst (v := 0) hx hb dX6_restart_5 (by decide) ?_
  refine lv_istore_n (lv' := [(2, .int 0), (0, .ref t), (1, .int (nI R))]) hx hb dX6_restart_6 rfl hl (by decide) rfl (fun ls hl => ?_)
  have k3 : f1 c = some (.inl (cy 0, n, .inl g)) := hup hf1 (hne h_c h_t (by intro q; cases q)) h_c
  refine W.widen (k := 0) (n := 0) (Nat.le_of_ble_eq_true rfl) (Nat.le_of_ble_eq_true rfl) ?_
  have LOOP7 : ∀ (k : Nat) (i : Nat) (f1 : Hf) (H : Heap) (locs : List Loc) (ls : Array Slot), (i ≤ R) → (R - i < k) → (f1 = va_up (va_up f t (some (.inr (8, [.int (nI C), .ref c, .int (nI i)])))) c (some (.inl (cy 0, n, .inl (zf g 0 (i * C)))))) → f1 t = some (.inr (8, [.int (nI C), .ref c, .int (nI i)])) → f1 c = some (.inl (cy 0, n, .inl (zf g 0 (i * C)))) → hG D (hA f sz) f1 s9 H locs → lv_has ls 3 [(2, .int (nI i)), (0, .ref t), (1, .int (nI R))] → W p9 l e9 ({ frames := 1, cells := 0, slots := 0, locals := 22 } : Room) s9 m9 ([.ref t, .int (nI R)] : List Value).toArray b9 t9 c9 H locs 0 0 (vx_MQ b9 (hQv (fun u => u = va_up (va_up f t (some (.inr (8, [.int (nI C), .ref c, .int (nI R)])))) c (some (.inl (cy 0, n, .inl (zf g 0 (R * C)))))) D f sz) (hPx hNo D f sz) ([.ref t, .int (nI R)] : List Value).toArray s9 0 0 (hA f sz)) (F0 m9 7 ls []) := by
    intro k
    induction k with
    | zero =>
      intro i f1 H locs ls hi2 hk he h_t1 h_c1 G hl
      exact absurd hk (by omega)
    | succ k ih =>
      intro i f1 H locs ls hi2 hk he h_t1 h_c1 G hl
      refine lv_iload_n hx hb dX6_restart_7 rfl (lv_at hl 0 rfl) ?_
      refine lv_iload_n hx hb dX6_restart_8 rfl (lv_at hl 2 rfl) ?_
      refine lv_icmp_ge (tgt := 22) hx hb dX6_restart_9 (by decide) (fun c4 => ?_) (fun c4 => ?_)
      · have n5 : R ≤ i := (nI_leI (a := R) (b := i) (by omega) (by omega)).mp c4
        exact g_vret C0 G hr dX6_restart_22 (Nat.le_of_ble_eq_true rfl) (Nat.le_of_ble_eq_true rfl) (by rw [he, show i = R by omega])
      · have n6 : ¬ R ≤ i := fun q => c4 ((nI_leI (a := R) (b := i) (by omega) (by omega)).mpr q)
        refine lv_aload_n hx hb dX6_restart_12 rfl (lv_at hl 1 rfl) ?_
        refine g_cV C0 G (g_runV C0 G (rest := []) (k_X6_addRow hfl (C := C) (r := i) h_t1 h_c1 (by have h5 := Nat.mul_le_mul_right C (show i + 1 ≤ R by omega); rw [Nat.add_mul, Nat.one_mul] at h5; omega) hn (by omega) hC) h_t1 rfl hY_X6_addRow mm_X6_26 mi_X6_addRow ml_X6_addRow ⟨(Nat.le_of_ble_eq_true rfl), (Nat.le_of_ble_eq_true rfl)⟩ rfl hl.1 rfl (Nat.le_of_ble_eq_true rfl) dX6_restart_13 ⟨(Nat.le_of_ble_eq_true rfl), (Nat.le_of_ble_eq_true rfl)⟩) (kx_no rfl) (fun u8 H locs hp7 G => ?_)
        obtain ⟨f9, hf9⟩ : ∃ z, z = va_up f1 t (some (.inr (8, [.int (nI C), .ref c, .int (nI (i + 1))]))) := ⟨_, rfl⟩
        have e10 : u8 = va_up (va_up f1 t (some (.inr (8, [.int (nI C), .ref c, .int (nI (i + 1))])))) c (some (.inl (cy 0, n, .inl (zf (zf g 0 (i * C)) (i * C) (i * C + C))))) := hp7
        rw [← hf9] at e10
        have k11 : f9 t = some (.inr (8, [.int (nI C), .ref c, .int (nI (i + 1))])) := hus hf9
        have k12 : f9 c = some (.inl (cy 0, n, .inl (zf g 0 (i * C)))) := hup hf9 (hne h_c1 h_t1 (by intro q; cases q)) h_c1
        have k13 : u8 c = some (.inl (cy 0, n, .inl (zf (zf g 0 (i * C)) (i * C) (i * C + C)))) := hus e10
        refine lv_iinc (v := nI (i + 1)) (lv' := [(2, .int (nI (i + 1))), (0, .ref t), (1, .int (nI R))]) hx hb dX6_restart_16 hl (k := 0) rfl (by exact (nI_add _ _)) (by decide) rfl (fun ls hl => ?_)
        refine lv_goto (tgt := 7) hx hb dX6_restart_19 (by decide) ?_
        have k15 : u8 t = some (.inr (8, [.int (nI C), .ref c, .int (nI (i + 1))])) := hup e10 (hne k11 k12 (by intro q; cases q)) k11
        exact ih (i + 1) u8 _ _ _ (by omega) (by omega) (by rw [e10, hf9, he, hup4 (hne h_t h_c (by intro q; cases q)), zf_j _ (Nat.zero_le _) (by omega), Nat.add_mul, Nat.one_mul]) k15 (by have h5 := k13; rw [zf_j _ (Nat.zero_le _) (by omega)] at h5; rw [Nat.add_mul, Nat.one_mul]; exact h5) G (lv_sub hl [0, 1, 2] rfl)
  exact LOOP7 (R + 1) 0 f1 _ _ _ (by omega) (by omega) (by rw [hf1, Nat.zero_mul, zf_0, hupid (f := va_up f t _) (by rw [va_up_ne _ _ (Ne.symm (hne h_t h_c (by intro q; cases q)))]; exact h_c)]; rfl) k2 (by rw [Nat.zero_mul, zf_0]; exact k3) G (lv_sub hl [0, 1, 2] rfl)
set_option maxRecDepth 100000 in
theorem k_X3_rest {l : Launch} (hfl : l.stackTraces = false) {D : va_G} {cy : Nat → ClassId} {f : Hf} {sz : Nat} {o ro : Nat} {o1 o2 o3 o4 o5 o6 o7 o8 : Int32} (h_o : f o = some (.inr (5, [.ref ro, .int o1, .int o2, .int o3, .int o4, .int o5, .int o6, .int o7, .int o8]))) : hMet l yX3_rest cX3_rest 1 none { frames := 0, cells := 0, slots := 0, locals := 0 } D (hTy cy) f sz [.ref o] (hQv (fun u => u = va_up f o (some (.inr (5, [.ref ro, .int o1, .int o2, .int o3, .int (-1), .int o5, .int 0, .int 0, .int 0])))) D f sz) hNo := by
  refine h_enter (by decide) hfl (Nat.le_of_ble_eq_true rfl) ?_
  intro p9 e9 s9 m9 b9 t9 c9 hsz C0 hr hnm G ls hl
  have hx := C0.1.1
  have hb := C0.1.2.1
  have hl : lv_has ls 1 [(0, .ref o)] := hl
  refine lv_aload_n hx hb dX3_rest_0 rfl (lv_at hl 0 rfl) ?_
  refine lv_iconst (v := (-1)) hx hb dX3_rest_1 (by decide) ?_
  refine g_put C0 G h_o rfl hiX3 tyX3 tyX3_ok nmX3 4 (by decide) mf_X3_25 rfl rfl rfl rfl (Nat.le_of_ble_eq_true rfl) dX3_rest_2 (fun H locs f1 hf1 G => ?_)
  have k2 : f1 o = some (.inr (5, [.ref ro, .int o1, .int o2, .int o3, .int (-1), .int o5, .int o6, .int o7, .int o8])) := hus hf1
  refine lv_aload_n hx hb dX3_rest_5 rfl (lv_at hl 0 rfl) ?_
  refine lv_iconst (v := 0) hx hb dX3_rest_6 (by decide) ?_
  refine g_put C0 G k2 rfl hiX3 tyX3 tyX3_ok nmX3 6 (by decide) mf_X3_31 rfl rfl rfl rfl (Nat.le_of_ble_eq_true rfl) dX3_rest_7 (fun H locs f3 hf3 G => ?_)
  have k4 : f3 o = some (.inr (5, [.ref ro, .int o1, .int o2, .int o3, .int (-1), .int o5, .int 0, .int o7, .int o8])) := hus hf3
  refine lv_aload_n hx hb dX3_rest_10 rfl (lv_at hl 0 rfl) ?_
  refine lv_iconst (v := 0) hx hb dX3_rest_11 (by decide) ?_
  refine g_put C0 G k4 rfl hiX3 tyX3 tyX3_ok nmX3 7 (by decide) mf_X3_34 rfl rfl rfl rfl (Nat.le_of_ble_eq_true rfl) dX3_rest_12 (fun H locs f5 hf5 G => ?_)
  have k6 : f5 o = some (.inr (5, [.ref ro, .int o1, .int o2, .int o3, .int (-1), .int o5, .int 0, .int 0, .int o8])) := hus hf5
  refine lv_aload_n hx hb dX3_rest_15 rfl (lv_at hl 0 rfl) ?_
  refine lv_iconst (v := 0) hx hb dX3_rest_16 (by decide) ?_
  refine g_put C0 G k6 rfl hiX3 tyX3 tyX3_ok nmX3 8 (by decide) mf_X3_37 rfl rfl rfl rfl (Nat.le_of_ble_eq_true rfl) dX3_rest_17 (fun H locs f7 hf7 G => ?_)
  have k8 : f7 o = some (.inr (5, [.ref ro, .int o1, .int o2, .int o3, .int (-1), .int o5, .int 0, .int 0, .int 0])) := hus hf7
  exact g_vret C0 G hr dX3_rest_20 (Nat.le_of_ble_eq_true rfl) (Nat.le_of_ble_eq_true rfl) (by rw [hf7, hf5, hf3, hf1]; simp only [hup2]; try rfl)
set_option maxRecDepth 100000 in
theorem k_X3_start {l : Launch} (hfl : l.stackTraces = false) {D : va_G} {cy : Nat → ClassId} {f : Hf} {sz : Nat} {o ro : Nat} {o1 o2 o3 o4 o5 o6 o7 o8 : Int32} (lim : Int32) (h_o : f o = some (.inr (5, [.ref ro, .int o1, .int o2, .int o3, .int o4, .int o5, .int o6, .int o7, .int o8]))) : hMet l yX3_start cX3_start 2 none { frames := 1, cells := 0, slots := 0, locals := 20 } D (hTy cy) f sz [.ref o, .int lim] (hQv (fun u => u = va_up f o (some (.inr (5, [.ref ro, .int lim, .int lim, .int 0, .int (-1), .int (-1), .int 0, .int 0, .int 0])))) D f sz) hNo := by
  refine h_enter (by decide) hfl (Nat.le_of_ble_eq_true rfl) ?_
  intro p9 e9 s9 m9 b9 t9 c9 hsz C0 hr hnm G ls hl
  have hx := C0.1.1
  have hb := C0.1.2.1
  have hl : lv_has ls 2 [(0, .ref o), (1, .int lim)] := hl
  refine lv_aload_n hx hb dX3_start_0 rfl (lv_at hl 0 rfl) ?_
  refine lv_iload_n hx hb dX3_start_1 rfl (lv_at hl 1 rfl) ?_
  refine g_put C0 G h_o rfl hiX3 tyX3 tyX3_ok nmX3 1 (by decide) mf_X3_15 rfl rfl rfl rfl (Nat.le_of_ble_eq_true rfl) dX3_start_2 (fun H locs f1 hf1 G => ?_)
  have k2 : f1 o = some (.inr (5, [.ref ro, .int lim, .int o2, .int o3, .int o4, .int o5, .int o6, .int o7, .int o8])) := hus hf1
  refine lv_aload_n hx hb dX3_start_5 rfl (lv_at hl 0 rfl) ?_
  refine lv_iload_n hx hb dX3_start_6 rfl (lv_at hl 1 rfl) ?_
  refine g_put C0 G k2 rfl hiX3 tyX3 tyX3_ok nmX3 2 (by decide) mf_X3_19 rfl rfl rfl rfl (Nat.le_of_ble_eq_true rfl) dX3_start_7 (fun H locs f3 hf3 G => ?_)
  have k4 : f3 o = some (.inr (5, [.ref ro, .int lim, .int lim, .int o3, .int o4, .int o5, .int o6, .int o7, .int o8])) := hus hf3
  refine lv_aload_n hx hb dX3_start_10 rfl (lv_at hl 0 rfl) ?_
  refine lv_iconst (v := 0) hx hb dX3_start_11 (by decide) ?_
  refine g_put C0 G k4 rfl hiX3 tyX3 tyX3_ok nmX3 3 (by decide) mf_X3_22 rfl rfl rfl rfl (Nat.le_of_ble_eq_true rfl) dX3_start_12 (fun H locs f5 hf5 G => ?_)
  have k6 : f5 o = some (.inr (5, [.ref ro, .int lim, .int lim, .int 0, .int o4, .int o5, .int o6, .int o7, .int o8])) := hus hf5
  refine lv_aload_n hx hb dX3_start_15 rfl (lv_at hl 0 rfl) ?_
  refine lv_iconst (v := (-1)) hx hb dX3_start_16 (by decide) ?_
  refine g_put C0 G k6 rfl hiX3 tyX3 tyX3_ok nmX3 5 (by decide) mf_X3_28 rfl rfl rfl rfl (Nat.le_of_ble_eq_true rfl) dX3_start_17 (fun H locs f7 hf7 G => ?_)
  have k8 : f7 o = some (.inr (5, [.ref ro, .int lim, .int lim, .int 0, .int o4, .int (-1), .int o6, .int o7, .int o8])) := hus hf7
  refine lv_aload_n hx hb dX3_start_20 rfl (lv_at hl 0 rfl) ?_
  refine g_cV C0 G (g_runV C0 G (rest := []) (k_X3_rest hfl k8) k8 rfl hY_X3_rest mm_X3_41 mi_X3_rest ml_X3_rest ⟨(Nat.le_of_ble_eq_true rfl), (Nat.le_of_ble_eq_true rfl)⟩ rfl hl.1 rfl (Nat.le_of_ble_eq_true rfl) dX3_start_21 ⟨(Nat.le_of_ble_eq_true rfl), (Nat.le_of_ble_eq_true rfl)⟩) (kx_no rfl) (fun u10 H locs hp9 G => ?_)
  have k11 : u10 o = some (.inr (5, [.ref ro, .int lim, .int lim, .int 0, .int (-1), .int (-1), .int 0, .int 0, .int 0])) := hus hp9
  exact g_vret C0 G hr dX3_start_24 (Nat.le_of_ble_eq_true rfl) (Nat.le_of_ble_eq_true rfl) (by rw [hp9, hf7, hf5, hf3, hf1]; simp only [hup2]; try rfl)
set_option maxRecDepth 100000 in
theorem k_X1_start {l : Launch} (hfl : l.stackTraces = false) {D : va_G} {cy : Nat → ClassId} {f : Hf} {sz : Nat} {lg n9 st9 en9 : Nat} {ov ie fi sc9 co un : Int32} (a1 a2 a3 : Int32) (h_lg : f lg = some (.inr (3, [.ref n9, .ref st9, .ref en9, .int ov, .int ie, .int fi, .int sc9, .int co, .int un]))) : hMet l yX1_start cX1_start 4 none { frames := 0, cells := 0, slots := 0, locals := 0 } D (hTy cy) f sz [.ref lg, .int a1, .int a2, .int a3] (hQv (fun u => u = va_up f lg (some (.inr (3, [.ref n9, .ref st9, .ref en9, .int a1, .int a2, .int a3, .int 0, .int 0, .int 0])))) D f sz) hNo := by
  refine h_enter (by decide) hfl (Nat.le_of_ble_eq_true rfl) ?_
  intro p9 e9 s9 m9 b9 t9 c9 hsz C0 hr hnm G ls hl
  have hx := C0.1.1
  have hb := C0.1.2.1
  have hl : lv_has ls 4 [(0, .ref lg), (1, .int a1), (2, .int a2), (3, .int a3)] := hl
  refine lv_aload_n hx hb dX1_start_0 rfl (lv_at hl 0 rfl) ?_
  refine lv_iload_n hx hb dX1_start_1 rfl (lv_at hl 1 rfl) ?_
  refine g_put C0 G h_lg rfl hiX1 tyX1 tyX1_ok nmX1 3 (by decide) mf_X1_28 rfl rfl rfl rfl (Nat.le_of_ble_eq_true rfl) dX1_start_2 (fun H locs f1 hf1 G => ?_)
  have k2 : f1 lg = some (.inr (3, [.ref n9, .ref st9, .ref en9, .int a1, .int ie, .int fi, .int sc9, .int co, .int un])) := hus hf1
  refine lv_aload_n hx hb dX1_start_5 rfl (lv_at hl 0 rfl) ?_
  refine lv_iload_n hx hb dX1_start_6 rfl (lv_at hl 2 rfl) ?_
  refine g_put C0 G k2 rfl hiX1 tyX1 tyX1_ok nmX1 4 (by decide) mf_X1_32 rfl rfl rfl rfl (Nat.le_of_ble_eq_true rfl) dX1_start_7 (fun H locs f3 hf3 G => ?_)
  have k4 : f3 lg = some (.inr (3, [.ref n9, .ref st9, .ref en9, .int a1, .int a2, .int fi, .int sc9, .int co, .int un])) := hus hf3
  refine lv_aload_n hx hb dX1_start_10 rfl (lv_at hl 0 rfl) ?_
  refine lv_iload_n hx hb dX1_start_11 rfl (lv_at hl 3 rfl) ?_
  refine g_put C0 G k4 rfl hiX1 tyX1 tyX1_ok nmX1 5 (by decide) mf_X1_35 rfl rfl rfl rfl (Nat.le_of_ble_eq_true rfl) dX1_start_12 (fun H locs f5 hf5 G => ?_)
  have k6 : f5 lg = some (.inr (3, [.ref n9, .ref st9, .ref en9, .int a1, .int a2, .int a3, .int sc9, .int co, .int un])) := hus hf5
  refine lv_aload_n hx hb dX1_start_15 rfl (lv_at hl 0 rfl) ?_
  refine lv_iconst (v := 0) hx hb dX1_start_16 (by decide) ?_
  refine g_put C0 G k6 rfl hiX1 tyX1 tyX1_ok nmX1 6 (by decide) mf_X1_38 rfl rfl rfl rfl (Nat.le_of_ble_eq_true rfl) dX1_start_17 (fun H locs f7 hf7 G => ?_)
  have k8 : f7 lg = some (.inr (3, [.ref n9, .ref st9, .ref en9, .int a1, .int a2, .int a3, .int 0, .int co, .int un])) := hus hf7
  refine lv_aload_n hx hb dX1_start_20 rfl (lv_at hl 0 rfl) ?_
  refine lv_iconst (v := 0) hx hb dX1_start_21 (by decide) ?_
  refine g_put C0 G k8 rfl hiX1 tyX1 tyX1_ok nmX1 7 (by decide) mf_X1_41 rfl rfl rfl rfl (Nat.le_of_ble_eq_true rfl) dX1_start_22 (fun H locs f9 hf9 G => ?_)
  have k10 : f9 lg = some (.inr (3, [.ref n9, .ref st9, .ref en9, .int a1, .int a2, .int a3, .int 0, .int 0, .int un])) := hus hf9
  refine lv_aload_n hx hb dX1_start_25 rfl (lv_at hl 0 rfl) ?_
  refine lv_iconst (v := 0) hx hb dX1_start_26 (by decide) ?_
  refine g_put C0 G k10 rfl hiX1 tyX1 tyX1_ok nmX1 8 (by decide) mf_X1_44 rfl rfl rfl rfl (Nat.le_of_ble_eq_true rfl) dX1_start_27 (fun H locs f11 hf11 G => ?_)
  have k12 : f11 lg = some (.inr (3, [.ref n9, .ref st9, .ref en9, .int a1, .int a2, .int a3, .int 0, .int 0, .int 0])) := hus hf11
  exact g_vret C0 G hr dX1_start_30 (Nat.le_of_ble_eq_true rfl) (Nat.le_of_ble_eq_true rfl) (by rw [hf11, hf9, hf7, hf5, hf3, hf1]; simp only [hup2]; try rfl)
set_option maxRecDepth 100000 in
theorem k_X2_at0 {l : Launch} (hfl : l.stackTraces = false) {D : va_G} {cy : Nat → ClassId} {f : Hf} {sz : Nat} {mt al i0 : Nat} {ex ovr each first number : Int32} {ga : Nat → Option Nat} (h_m : f mt = some (.inr (4, [.ref al, .int ex, .int ovr, .int each, .int first, .int number]))) (h_al : f al = some (.inl (cy 3, 4, .inr (.inr (.inr (.inr ga)))))) (hg0 : ga 0 = some i0) : hMet l yX2_at cX2_at 3 (some (.object "WicketScorer$Innings")) { frames := 1, cells := 0, slots := 0, locals := 14 } D (hTy cy) f sz [.ref mt, .int 0] (hQr (fun a u => a = i0 ∧ u = f) D f sz) hNo := by
  refine h_enter (by decide) hfl (Nat.le_of_ble_eq_true rfl) ?_
  intro p9 e9 s9 m9 b9 t9 c9 hsz C0 hr hnm G ls hl
  have hx := C0.1.1
  have hb := C0.1.2.1
  have hl : lv_has ls 3 [(0, .ref mt), (1, .int 0)] := hl
  refine lv_iconst (v := 0) hx hb dX2_at_0 (by decide) ?_
  refine lv_iload_n hx hb dX2_at_1 rfl (lv_at hl 1 rfl) ?_
  refine lv_iconst (v := 3) hx hb dX2_at_2 (by decide) ?_
  refine g_min C0 mm_X2_68 hl.1 (Nat.le_of_ble_eq_true rfl) (Nat.le_of_ble_eq_true rfl) ⟨(Nat.le_of_ble_eq_true rfl), (Nat.le_of_ble_eq_true rfl)⟩ dX2_at_3 ?_
  refine lv_topv (v := 0) (by decide) ?_
  refine g_max C0 mm_X2_74 hl.1 (Nat.le_of_ble_eq_true rfl) (Nat.le_of_ble_eq_true rfl) ⟨(Nat.le_of_ble_eq_true rfl), (Nat.le_of_ble_eq_true rfl)⟩ dX2_at_6 ?_
  refine lv_topv (v := 0) (by decide) ?_
  refine lv_istore_n (lv' := [(2, .int 0), (0, .ref mt), (1, .int 0)]) hx hb dX2_at_9 rfl hl (by decide) rfl (fun ls hl => ?_)
  refine lv_aload_n hx hb dX2_at_10 rfl (lv_at hl 1 rfl) ?_
  refine g_get C0 G h_m rfl hiX2 0 (by decide) mf_X2_11 rfl dX2_at_11 ?_
  refine lv_iload_n hx hb dX2_at_14 rfl (lv_at hl 0 rfl) ?_
  refine g_aald C0 G h_al 3 rfl (by unfold vp_in; decide) (v := .ref i0) (by show va_rf (ga 0) = _; rw [hg0]; rfl) dX2_at_15 ?_
  exact g_aret C0 G hr dX2_at_16 (Nat.le_of_ble_eq_true rfl) (Nat.le_of_ble_eq_true rfl) (by exact ⟨rfl, rfl⟩)
set_option maxRecDepth 100000 in
theorem k_X2_present0 {l : Launch} (hfl : l.stackTraces = false) {D : va_G} {cy : Nat → ClassId} {f : Hf} {sz : Nat} {mt al i0 : Nat} {ex ovr each first : Int32} {ga : Nat → Option Nat} (h_m : f mt = some (.inr (4, [.ref al, .int ex, .int ovr, .int each, .int first, .int 0]))) (h_al : f al = some (.inl (cy 3, 4, .inr (.inr (.inr (.inr ga)))))) (hg0 : ga 0 = some i0) : hMet l yX2_present cX2_present 1 (some (.object "WicketScorer$Innings")) { frames := 2, cells := 0, slots := 0, locals := 36 } D (hTy cy) f sz [.ref mt] (hQr (fun a u => a = i0 ∧ u = f) D f sz) hNo := by
  refine h_enter (by decide) hfl (Nat.le_of_ble_eq_true rfl) ?_
  intro p9 e9 s9 m9 b9 t9 c9 hsz C0 hr hnm G ls hl
  have hx := C0.1.1
  have hb := C0.1.2.1
  have hl : lv_has ls 1 [(0, .ref mt)] := hl
  refine lv_aload_n hx hb dX2_present_0 rfl (lv_at hl 0 rfl) ?_
  refine lv_aload_n hx hb dX2_present_1 rfl (lv_at hl 0 rfl) ?_
  refine g_get C0 G h_m rfl hiX2 5 (by decide) mf_X2_31 rfl dX2_present_2 ?_
  refine g_cR C0 G (g_runV C0 G (rest := []) (k_X2_at0 hfl h_m h_al hg0) h_m rfl hY_X2_at mm_X2_77 mi_X2_at ml_X2_at ⟨(Nat.le_of_ble_eq_true rfl), (Nat.le_of_ble_eq_true rfl)⟩ rfl hl.1 rfl (Nat.le_of_ble_eq_true rfl) dX2_present_5 ⟨(Nat.le_of_ble_eq_true rfl), (Nat.le_of_ble_eq_true rfl)⟩) (kx_no rfl) (fun a3 u2 H locs hp1 G => ?_)
  obtain ⟨qa3, eu2⟩ := hp1
  rw [qa3]
  rw [eu2] at G
  exact g_aret C0 G hr dX2_present_8 (Nat.le_of_ble_eq_true rfl) (Nat.le_of_ble_eq_true rfl) (by exact ⟨rfl, rfl⟩)
set_option maxRecDepth 100000 in
theorem k_X2_hasResources {l : Launch} (hfl : l.stackTraces = false) {D : va_G} {cy : Nat → ClassId} {f : Hf} {sz : Nat} {mt al : Nat} {ex ovr each first number : Int32} (h_m : f mt = some (.inr (4, [.ref al, .int ex, .int ovr, .int each, .int first, .int number]))) : hMet l yX2_hasResources cX2_hasResources 1 (some .boolean) { frames := 0, cells := 0, slots := 0, locals := 0 } D (hTy cy) f sz [.ref mt] (hQi (fun r u => ((r = 1 ∧ each = 1) ∨ (r = 0 ∧ ¬ (each = 1))) ∧ u = f) D f sz) hNo := by
  refine h_enter (by decide) hfl (Nat.le_of_ble_eq_true rfl) ?_
  intro p9 e9 s9 m9 b9 t9 c9 hsz C0 hr hnm G ls hl
  have hx := C0.1.1
  have hb := C0.1.2.1
  have hl : lv_has ls 1 [(0, .ref mt)] := hl
  refine lv_aload_n hx hb dX2_hasResources_0 rfl (lv_at hl 0 rfl) ?_
  refine g_get C0 G h_m rfl hiX2 3 (by decide) mf_X2_24 rfl dX2_hasResources_1 ?_
  refine lv_iconst (v := 1) hx hb dX2_hasResources_4 (by decide) ?_
  refine lv_icmp_ne (tgt := 12) hx hb dX2_hasResources_5 (by decide) (fun c1 => ?_) (fun c1 => ?_)
  · refine lv_iconst (v := 0) hx hb dX2_hasResources_12 (by decide) ?_
    exact g_zret C0 G hr dX2_hasResources_13 rfl (Nat.le_of_ble_eq_true rfl) (Nat.le_of_ble_eq_true rfl) (by refine ⟨?_, rfl⟩; first | (simp_all; done) | (refine Or.inl ⟨rfl, ?_⟩; first | (simp only [Int32.lt_iff_toInt_lt, Int32.le_iff_toInt_le, ← Int32.toInt_inj] at *; first | omega | (simp at *; omega)) | (simp_all; done)) | (refine Or.inr ⟨rfl, ?_⟩; first | (simp only [Int32.lt_iff_toInt_lt, Int32.le_iff_toInt_le, ← Int32.toInt_inj] at *; first | omega | (simp at *; omega)) | (simp_all; done)))
  · refine lv_iconst (v := 1) hx hb dX2_hasResources_8 (by decide) ?_
    refine lv_goto (tgt := 13) hx hb dX2_hasResources_9 (by decide) ?_
    exact g_zret C0 G hr dX2_hasResources_13 rfl (Nat.le_of_ble_eq_true rfl) (Nat.le_of_ble_eq_true rfl) (by refine ⟨?_, rfl⟩; first | (simp_all; done) | (refine Or.inl ⟨rfl, ?_⟩; first | (simp only [Int32.lt_iff_toInt_lt, Int32.le_iff_toInt_le, ← Int32.toInt_inj] at *; first | omega | (simp at *; omega)) | (simp_all; done)) | (refine Or.inr ⟨rfl, ?_⟩; first | (simp only [Int32.lt_iff_toInt_lt, Int32.le_iff_toInt_le, ← Int32.toInt_inj] at *; first | omega | (simp at *; omega)) | (simp_all; done)))
set_option maxRecDepth 100000 in
theorem k_X0_value {l : Launch} (hfl : l.stackTraces = false) {D : va_G} {cy : Nat → ClassId} {f : Hf} {sz : Nat} {i0 i1 i2 i3 i4 i5 i6 i7 i8 i9 i10 i11 i12 : Nat} {v0 v1 v2 v3 v4 v5 v10 v11 v12 v13 v14 v15 v16 v17 : Int32} {g0 : Nat → Int32} (oI : i0 < i1 ∧ i1 < i2 ∧ i2 < i3 ∧ i3 < i4 ∧ i4 < i5 ∧ i5 < i6 ∧ i6 < i7 ∧ i7 < i8 ∧ i8 < i9 ∧ i9 < i10 ∧ i10 < i11 ∧ i11 < i12) (h_i0 : f i0 = some (.inr (2, [.ref i1, .ref i3, .ref i5, .ref i7, .ref i9, .ref i11, .int v0, .int v1, .int v2, .int v3, .int v4]))) (h_i1 : f i1 = some (.inr (8, [.int 8, .ref i2, .int v5]))) (h_i2 : f i2 = some (.inl (cy 0, 8, .inl g0))) (h_i11 : f i11 = some (.inr (5, [.ref i12, .int v10, .int v11, .int v12, .int v13, .int v14, .int v15, .int v16, .int v17]))) : hMet l yX0_value cX0_value 2 (some .int) { frames := 1, cells := 0, slots := 0, locals := 24 } D (hTy cy) f sz [.ref i0] (hQi (fun r u => r = (10 - tget 8 v5 8 g0 0 1) * (240 * (6 * v10 - tget 8 v5 8 g0 0 2) - (6 * v10 - tget 8 v5 8 g0 0 2) * (6 * v10 - tget 8 v5 8 g0 0 2)) ∧ u = f) D f sz) hNo := by
  refine h_enter (by decide) hfl (Nat.le_of_ble_eq_true rfl) ?_
  intro p9 e9 s9 m9 b9 t9 c9 hsz C0 hr hnm G ls hl
  have hx := C0.1.1
  have hb := C0.1.2.1
  have hl : lv_has ls 2 [(0, .ref i0)] := hl
  obtain ⟨oI0, oI1, oI2, oI3, oI4, oI5, oI6, oI7, oI8, oI9, oI10, oI11⟩ := id oI
  refine lv_bipush (v := 6) hx hb dX0_value_0 (by decide) ?_
  refine lv_aload_n hx hb dX0_value_2 rfl (lv_at hl 0 rfl) ?_
  refine g_get C0 G h_i0 rfl hiX0 5 (by decide) mf_X0_35 rfl dX0_value_3 ?_
  refine g_get C0 G h_i11 rfl hiX3 1 (by decide) mf_X0_78 rfl dX0_value_6 ?_
  refine lv_imul hx hb dX0_value_9 ?_
  refine lv_aload_n hx hb dX0_value_10 rfl (lv_at hl 0 rfl) ?_
  refine g_get C0 G h_i0 rfl hiX0 0 (by decide) mf_X0_16 rfl dX0_value_11 ?_
  refine lv_iconst (v := 0) hx hb dX0_value_14 (by decide) ?_
  refine lv_iconst (v := 2) hx hb dX0_value_15 (by decide) ?_
  refine g_cI C0 G (g_runV C0 G (rest := [.int (6 * v10)]) (k_X6_get hfl 0 2 h_i1 h_i2 (by decide)) h_i1 rfl hY_X6_get mm_X0_74 mi_X6_get ml_X6_get ⟨(Nat.le_of_ble_eq_true rfl), (Nat.le_of_ble_eq_true rfl)⟩ rfl hl.1 rfl (Nat.le_of_ble_eq_true rfl) dX0_value_16 ⟨(Nat.le_of_ble_eq_true rfl), (Nat.le_of_ble_eq_true rfl)⟩) (kx_no rfl) (fun r3 u2 H locs hp1 G => ?_)
  obtain ⟨rfl, eu2⟩ := hp1
  rw [eu2] at G
  refine lv_isub hx hb dX0_value_19 ?_
  refine lv_istore_n (lv' := [(1, .int ((6 * v10) - (tget 8 v5 8 g0 0 2))), (0, .ref i0)]) hx hb dX0_value_20 rfl hl (by decide) rfl (fun ls hl => ?_)
  refine lv_bipush (v := 10) hx hb dX0_value_21 (by decide) ?_
  refine lv_aload_n hx hb dX0_value_23 rfl (lv_at hl 1 rfl) ?_
  refine g_get C0 G h_i0 rfl hiX0 0 (by decide) mf_X0_16 rfl dX0_value_24 ?_
  refine lv_iconst (v := 0) hx hb dX0_value_27 (by decide) ?_
  refine lv_iconst (v := 1) hx hb dX0_value_28 (by decide) ?_
  refine g_cI C0 G (g_runV C0 G (rest := [.int 10]) (k_X6_get hfl 0 1 h_i1 h_i2 (by decide)) h_i1 rfl hY_X6_get mm_X0_74 mi_X6_get ml_X6_get ⟨(Nat.le_of_ble_eq_true rfl), (Nat.le_of_ble_eq_true rfl)⟩ rfl hl.1 rfl (Nat.le_of_ble_eq_true rfl) dX0_value_29 ⟨(Nat.le_of_ble_eq_true rfl), (Nat.le_of_ble_eq_true rfl)⟩) (kx_no rfl) (fun r6 u5 H locs hp4 G => ?_)
  obtain ⟨rfl, eu5⟩ := hp4
  rw [eu5] at G
  refine lv_isub hx hb dX0_value_32 ?_
  refine lv_sipush (v := 240) hx hb dX0_value_33 (by decide) ?_
  refine lv_iload_n hx hb dX0_value_36 rfl (lv_at hl 0 rfl) ?_
  refine lv_imul hx hb dX0_value_37 ?_
  refine lv_iload_n hx hb dX0_value_38 rfl (lv_at hl 0 rfl) ?_
  refine lv_iload_n hx hb dX0_value_39 rfl (lv_at hl 0 rfl) ?_
  refine lv_imul hx hb dX0_value_40 ?_
  refine lv_isub hx hb dX0_value_41 ?_
  refine lv_imul hx hb dX0_value_42 ?_
  exact g_iret C0 G hr dX0_value_43 (Nat.le_of_ble_eq_true rfl) (Nat.le_of_ble_eq_true rfl) (by exact ⟨rfl, rfl⟩)
set_option maxRecDepth 100000 in
theorem k_X0_beginPartnershipF {l : Launch} (hfl : l.stackTraces = false) {D : va_G} {cy : Nat → ClassId} {f : Hf} {sz : Nat} {i0 i1 i2 i3 i4 i5 i6 i7 i8 i9 i10 i11 i12 : Nat} {v0 v1 v2 v3 v4 : Int32} {g3 : Nat → Int32} (oI : i0 < i1 ∧ i1 < i2 ∧ i2 < i3 ∧ i3 < i4 ∧ i4 < i5 ∧ i5 < i6 ∧ i6 < i7 ∧ i7 < i8 ∧ i8 < i9 ∧ i9 < i10 ∧ i10 < i11 ∧ i11 < i12) (h_i0 : f i0 = some (.inr (2, [.ref i1, .ref i3, .ref i5, .ref i7, .ref i9, .ref i11, .int v0, .int v1, .int v2, .int v3, .int v4]))) (h_i7 : f i7 = some (.inr (8, [.int 8, .ref i8, .int 0]))) (h_i8 : f i8 = some (.inl (cy 0, 4104, .inl g3))) : hMet l yX0_beginPartnership cX0_beginPartnership 2 none { frames := 1, cells := 0, slots := 0, locals := 25 } D (hTy cy) f sz [.ref i0] (hQv (fun u => hFrL f u [i7, i8]) D f sz) hNo := by
  refine h_enter (by decide) hfl (Nat.le_of_ble_eq_true rfl) ?_
  intro p9 e9 s9 m9 b9 t9 c9 hsz C0 hr hnm G ls hl
  have hx := C0.1.1
  have hb := C0.1.2.1
  have hl : lv_has ls 2 [(0, .ref i0)] := hl
  obtain ⟨oI0, oI1, oI2, oI3, oI4, oI5, oI6, oI7, oI8, oI9, oI10, oI11⟩ := id oI
  refine lv_aload_n hx hb dX0_beginPartnership_0 rfl (lv_at hl 0 rfl) ?_
  refine g_get C0 G h_i0 rfl hiX0 3 (by decide) mf_X0_26 rfl dX0_beginPartnership_1 ?_
  refine g_cV C0 G (g_runV C0 G (rest := []) (k_X6_addRow hfl (C := 8) (r := 0) h_i7 h_i8 (by decide) (by decide) (by decide) (by decide)) h_i7 rfl hY_X6_addRow mm_X0_186 mi_X6_addRow ml_X6_addRow ⟨(Nat.le_of_ble_eq_true rfl), (Nat.le_of_ble_eq_true rfl)⟩ rfl hl.1 rfl (Nat.le_of_ble_eq_true rfl) dX0_beginPartnership_4 ⟨(Nat.le_of_ble_eq_true rfl), (Nat.le_of_ble_eq_true rfl)⟩) (kx_no rfl) (fun u2 H locs hp1 G => ?_)
  obtain ⟨f3, hf3⟩ : ∃ z, z = va_up f i7 (some (.inr (8, [.int 8, .ref i8, .int 1]))) := ⟨_, rfl⟩
  have e4 : u2 = va_up (va_up f i7 (some (.inr (8, [.int 8, .ref i8, .int 1])))) i8 (some (.inl (cy 0, 4104, .inl (zf g3 (0 * 8) (0 * 8 + 8))))) := hp1
  rw [← hf3] at e4
  have k5 : f3 i7 = some (.inr (8, [.int 8, .ref i8, .int 1])) := hus hf3
  have k6 : f3 i8 = some (.inl (cy 0, 4104, .inl g3)) := hup hf3 (by omega) h_i8
  have k7 : u2 i8 = some (.inl (cy 0, 4104, .inl (zf g3 (0 * 8) (0 * 8 + 8)))) := hus e4
  refine lv_aload_n hx hb dX0_beginPartnership_7 rfl (lv_at hl 0 rfl) ?_
  have k8 : u2 i0 = some (.inr (2, [.ref i1, .ref i3, .ref i5, .ref i7, .ref i9, .ref i11, .int v0, .int v1, .int v2, .int v3, .int v4])) := hup e4 (by omega) (hup hf3 (by omega) h_i0)
  refine g_get C0 G k8 rfl hiX0 3 (by decide) mf_X0_26 rfl dX0_beginPartnership_8 ?_
  have k9 : u2 i7 = some (.inr (8, [.int 8, .ref i8, .int 1])) := hup e4 (by omega) k5
  refine g_cI C0 G (g_runV C0 G (rest := []) (k_X6_lastRow hfl  k9 k7) k9 rfl hY_X6_lastRow mm_X0_183 mi_X6_lastRow ml_X6_lastRow ⟨(Nat.le_of_ble_eq_true rfl), (Nat.le_of_ble_eq_true rfl)⟩ rfl hl.1 rfl (Nat.le_of_ble_eq_true rfl) dX0_beginPartnership_11 ⟨(Nat.le_of_ble_eq_true rfl), (Nat.le_of_ble_eq_true rfl)⟩) (kx_no rfl) (fun r12 u11 H locs hp10 G => ?_)
  obtain ⟨rfl, eu11⟩ := hp10
  rw [eu11] at G
  refine lv_topv (v := 0) (by decide) ?_
  refine lv_istore_n (lv' := [(1, .int 0), (0, .ref i0)]) hx hb dX0_beginPartnership_14 rfl hl (by decide) rfl (fun ls hl => ?_)
  refine lv_aload_n hx hb dX0_beginPartnership_15 rfl (lv_at hl 1 rfl) ?_
  refine g_get C0 G k8 rfl hiX0 3 (by decide) mf_X0_26 rfl dX0_beginPartnership_16 ?_
  refine lv_iload_n hx hb dX0_beginPartnership_19 rfl (lv_at hl 0 rfl) ?_
  refine lv_iconst (v := 2) hx hb dX0_beginPartnership_20 (by decide) ?_
  refine lv_aload_n hx hb dX0_beginPartnership_21 rfl (lv_at hl 1 rfl) ?_
  refine g_get C0 G k8 rfl hiX0 7 (by decide) mf_X0_43 rfl dX0_beginPartnership_22 ?_
  refine lv_aload_n hx hb dX0_beginPartnership_25 rfl (lv_at hl 1 rfl) ?_
  refine g_get C0 G k8 rfl hiX0 8 (by decide) mf_X0_46 rfl dX0_beginPartnership_26 ?_
  refine g_min C0 mm_X0_195 hl.1 (Nat.le_of_ble_eq_true rfl) (Nat.le_of_ble_eq_true rfl) ⟨(Nat.le_of_ble_eq_true rfl), (Nat.le_of_ble_eq_true rfl)⟩ dX0_beginPartnership_29 ?_
  refine g_cV C0 G (g_runV C0 G (rest := []) (k_X6_set hfl 0 2 (if v2 < v1 then v2 else v1) k9 k7 (by decide)) k9 rfl hY_X6_set mm_X0_63 mi_X6_set ml_X6_set ⟨(Nat.le_of_ble_eq_true rfl), (Nat.le_of_ble_eq_true rfl)⟩ rfl hl.1 rfl (Nat.le_of_ble_eq_true rfl) dX0_beginPartnership_32 ⟨(Nat.le_of_ble_eq_true rfl), (Nat.le_of_ble_eq_true rfl)⟩) (kx_no rfl) (fun u14 H locs hp13 G => ?_)
  have k15 : u14 i8 = some (.inl (cy 0, 4104, .inl (tset 8 1 4104 (zf g3 (0 * 8) (0 * 8 + 8)) 0 2 (if v2 < v1 then v2 else v1)))) := hus hp13
  refine lv_aload_n hx hb dX0_beginPartnership_35 rfl (lv_at hl 1 rfl) ?_
  have k16 : u14 i0 = some (.inr (2, [.ref i1, .ref i3, .ref i5, .ref i7, .ref i9, .ref i11, .int v0, .int v1, .int v2, .int v3, .int v4])) := hup hp13 (by omega) k8
  refine g_get C0 G k16 rfl hiX0 3 (by decide) mf_X0_26 rfl dX0_beginPartnership_36 ?_
  refine lv_iload_n hx hb dX0_beginPartnership_39 rfl (lv_at hl 0 rfl) ?_
  refine lv_iconst (v := 3) hx hb dX0_beginPartnership_40 (by decide) ?_
  refine lv_aload_n hx hb dX0_beginPartnership_41 rfl (lv_at hl 1 rfl) ?_
  refine g_get C0 G k16 rfl hiX0 7 (by decide) mf_X0_43 rfl dX0_beginPartnership_42 ?_
  refine lv_aload_n hx hb dX0_beginPartnership_45 rfl (lv_at hl 1 rfl) ?_
  refine g_get C0 G k16 rfl hiX0 8 (by decide) mf_X0_46 rfl dX0_beginPartnership_46 ?_
  refine g_max C0 mm_X0_200 hl.1 (Nat.le_of_ble_eq_true rfl) (Nat.le_of_ble_eq_true rfl) ⟨(Nat.le_of_ble_eq_true rfl), (Nat.le_of_ble_eq_true rfl)⟩ dX0_beginPartnership_49 ?_
  have k17 : u14 i7 = some (.inr (8, [.int 8, .ref i8, .int 1])) := hup hp13 (by omega) k9
  refine g_cV C0 G (g_runV C0 G (rest := []) (k_X6_set hfl 0 3 (if v1 < v2 then v2 else v1) k17 k15 (by decide)) k17 rfl hY_X6_set mm_X0_63 mi_X6_set ml_X6_set ⟨(Nat.le_of_ble_eq_true rfl), (Nat.le_of_ble_eq_true rfl)⟩ rfl hl.1 rfl (Nat.le_of_ble_eq_true rfl) dX0_beginPartnership_52 ⟨(Nat.le_of_ble_eq_true rfl), (Nat.le_of_ble_eq_true rfl)⟩) (kx_no rfl) (fun u19 H locs hp18 G => ?_)
  have k20 : u19 i8 = some (.inl (cy 0, 4104, .inl (tset 8 1 4104 (tset 8 1 4104 (zf g3 (0 * 8) (0 * 8 + 8)) 0 2 (if v2 < v1 then v2 else v1)) 0 3 (if v1 < v2 then v2 else v1)))) := hus hp18
  refine lv_aload_n hx hb dX0_beginPartnership_55 rfl (lv_at hl 1 rfl) ?_
  have k21 : u19 i0 = some (.inr (2, [.ref i1, .ref i3, .ref i5, .ref i7, .ref i9, .ref i11, .int v0, .int v1, .int v2, .int v3, .int v4])) := hup hp18 (by omega) k16
  refine g_get C0 G k21 rfl hiX0 3 (by decide) mf_X0_26 rfl dX0_beginPartnership_56 ?_
  refine lv_iload_n hx hb dX0_beginPartnership_59 rfl (lv_at hl 0 rfl) ?_
  refine lv_bipush (v := 7) hx hb dX0_beginPartnership_60 (by decide) ?_
  refine lv_iconst (v := 1) hx hb dX0_beginPartnership_62 (by decide) ?_
  have k22 : u19 i7 = some (.inr (8, [.int 8, .ref i8, .int 1])) := hup hp18 (by omega) k17
  refine g_cV C0 G (g_runV C0 G (rest := []) (k_X6_set hfl 0 7 1 k22 k20 (by decide)) k22 rfl hY_X6_set mm_X0_63 mi_X6_set ml_X6_set ⟨(Nat.le_of_ble_eq_true rfl), (Nat.le_of_ble_eq_true rfl)⟩ rfl hl.1 rfl (Nat.le_of_ble_eq_true rfl) dX0_beginPartnership_63 ⟨(Nat.le_of_ble_eq_true rfl), (Nat.le_of_ble_eq_true rfl)⟩) (kx_no rfl) (fun u24 H locs hp23 G => ?_)
  have k25 : u24 i8 = some (.inl (cy 0, 4104, .inl (tset 8 1 4104 (tset 8 1 4104 (tset 8 1 4104 (zf g3 (0 * 8) (0 * 8 + 8)) 0 2 (if v2 < v1 then v2 else v1)) 0 3 (if v1 < v2 then v2 else v1)) 0 7 1))) := hus hp23
  exact g_vret C0 G hr dX0_beginPartnership_66 (Nat.le_of_ble_eq_true rfl) (Nat.le_of_ble_eq_true rfl) (by exact fun a9 e9 h7 h8 => hup hp23 (fun q => h7 (by rw [q]; simp)) (hup hp18 (fun q => h7 (by rw [q]; simp)) (hup hp13 (fun q => h7 (by rw [q]; simp)) (hup e4 (fun q => h7 (by rw [q]; simp)) (hup hf3 (fun q => h7 (by rw [q]; simp)) (h8))))))
set_option maxRecDepth 100000 in
theorem k_X0_startF {l : Launch} (hfl : l.stackTraces = false) {D : va_G} {cy : Nat → ClassId} {f : Hf} {sz : Nat} {i0 i1 i2 i3 i4 i5 i6 i7 i8 i9 i10 i11 i12 : Nat} {v0 v1 v2 v3 v4 v5 v6 v7 v8 v9 v10 v11 v12 v13 v14 v15 v16 v17 : Int32} {g0 g1 g2 g3 g4 g5 : Nat → Int32} (lim hr9 : Int32) (oI : i0 < i1 ∧ i1 < i2 ∧ i2 < i3 ∧ i3 < i4 ∧ i4 < i5 ∧ i5 < i6 ∧ i6 < i7 ∧ i7 < i8 ∧ i8 < i9 ∧ i9 < i10 ∧ i10 < i11 ∧ i11 < i12) (h_i0 : f i0 = some (.inr (2, [.ref i1, .ref i3, .ref i5, .ref i7, .ref i9, .ref i11, .int v0, .int v1, .int v2, .int v3, .int v4]))) (h_i1 : f i1 = some (.inr (8, [.int 8, .ref i2, .int v5]))) (h_i2 : f i2 = some (.inl (cy 0, 8, .inl g0))) (h_i3 : f i3 = some (.inr (8, [.int 6, .ref i4, .int v6]))) (h_i4 : f i4 = some (.inl (cy 0, 66, .inl g1))) (h_i5 : f i5 = some (.inr (8, [.int 7, .ref i6, .int v7]))) (h_i6 : f i6 = some (.inl (cy 0, 77, .inl g2))) (h_i7 : f i7 = some (.inr (8, [.int 8, .ref i8, .int v8]))) (h_i8 : f i8 = some (.inl (cy 0, 4104, .inl g3))) (h_i9 : f i9 = some (.inr (8, [.int 3, .ref i10, .int v9]))) (h_i10 : f i10 = some (.inl (cy 0, 33, .inl g4))) (h_i11 : f i11 = some (.inr (5, [.ref i12, .int v10, .int v11, .int v12, .int v13, .int v14, .int v15, .int v16, .int v17]))) (h_i12 : f i12 = some (.inl (cy 0, 20, .inl g5))) : hMet l yX0_start cX0_start 4 none { frames := 2, cells := 0, slots := 0, locals := 46 } D (hTy cy) f sz [.ref i0, .int lim, .int hr9] (hQv (fun u => hFrL f u [i0, i1, i2, i3, i4, i5, i6, i7, i8, i9, i10, i11, i12]) D f sz) hNo := by
  refine h_enter (by decide) hfl (Nat.le_of_ble_eq_true rfl) ?_
  intro p9 e9 s9 m9 b9 t9 c9 hsz C0 hr hnm G ls hl
  have hx := C0.1.1
  have hb := C0.1.2.1
  have hl : lv_has ls 4 [(0, .ref i0), (1, .int lim), (2, .int hr9)] := hl
  obtain ⟨oI0, oI1, oI2, oI3, oI4, oI5, oI6, oI7, oI8, oI9, oI10, oI11⟩ := id oI
  refine lv_aload_n hx hb dX0_start_0 rfl (lv_at hl 0 rfl) ?_
  refine g_get C0 G h_i0 rfl hiX0 0 (by decide) mf_X0_16 rfl dX0_start_1 ?_
  refine lv_iconst (v := 1) hx hb dX0_start_4 (by decide) ?_
  refine g_cV C0 G (g_runV C0 G (rest := []) (k_X6_restart hfl (C := 8) 1 h_i1 h_i2 (by decide) (by decide) (by decide) (by decide)) h_i1 rfl hY_X6_restart mm_X0_56 mi_X6_restart ml_X6_restart ⟨(Nat.le_of_ble_eq_true rfl), (Nat.le_of_ble_eq_true rfl)⟩ rfl hl.1 rfl (Nat.le_of_ble_eq_true rfl) dX0_start_5 ⟨(Nat.le_of_ble_eq_true rfl), (Nat.le_of_ble_eq_true rfl)⟩) (kx_no rfl) (fun u2 H locs hp1 G => ?_)
  obtain ⟨f3, hf3⟩ : ∃ z, z = va_up f i1 (some (.inr (8, [.int 8, .ref i2, .int 1]))) := ⟨_, rfl⟩
  have e4 : u2 = va_up (va_up f i1 (some (.inr (8, [.int 8, .ref i2, .int 1])))) i2 (some (.inl (cy 0, 8, .inl (zf g0 0 (1 * 8))))) := hp1
  rw [← hf3] at e4
  have k5 : f3 i1 = some (.inr (8, [.int 8, .ref i2, .int 1])) := hus hf3
  have k6 : f3 i2 = some (.inl (cy 0, 8, .inl g0)) := hup hf3 (by omega) h_i2
  have k7 : u2 i2 = some (.inl (cy 0, 8, .inl (zf g0 0 (1 * 8)))) := hus e4
  refine lv_aload_n hx hb dX0_start_8 rfl (lv_at hl 0 rfl) ?_
  have k8 : u2 i0 = some (.inr (2, [.ref i1, .ref i3, .ref i5, .ref i7, .ref i9, .ref i11, .int v0, .int v1, .int v2, .int v3, .int v4])) := hup e4 (by omega) (hup hf3 (by omega) h_i0)
  refine g_get C0 G k8 rfl hiX0 1 (by decide) mf_X0_20 rfl dX0_start_9 ?_
  refine lv_bipush (v := 11) hx hb dX0_start_12 (by decide) ?_
  have k9 : u2 i3 = some (.inr (8, [.int 6, .ref i4, .int v6])) := hup e4 (by omega) (hup hf3 (by omega) h_i3)
  have k10 : u2 i4 = some (.inl (cy 0, 66, .inl g1)) := hup e4 (by omega) (hup hf3 (by omega) h_i4)
  refine g_cV C0 G (g_runV C0 G (rest := []) (k_X6_restart hfl (C := 6) 11 k9 k10 (by decide) (by decide) (by decide) (by decide)) k9 rfl hY_X6_restart mm_X0_56 mi_X6_restart ml_X6_restart ⟨(Nat.le_of_ble_eq_true rfl), (Nat.le_of_ble_eq_true rfl)⟩ rfl hl.1 rfl (Nat.le_of_ble_eq_true rfl) dX0_start_14 ⟨(Nat.le_of_ble_eq_true rfl), (Nat.le_of_ble_eq_true rfl)⟩) (kx_no rfl) (fun u12 H locs hp11 G => ?_)
  obtain ⟨f13, hf13⟩ : ∃ z, z = va_up u2 i3 (some (.inr (8, [.int 6, .ref i4, .int 11]))) := ⟨_, rfl⟩
  have e14 : u12 = va_up (va_up u2 i3 (some (.inr (8, [.int 6, .ref i4, .int 11])))) i4 (some (.inl (cy 0, 66, .inl (zf g1 0 (11 * 6))))) := hp11
  rw [← hf13] at e14
  have k15 : f13 i3 = some (.inr (8, [.int 6, .ref i4, .int 11])) := hus hf13
  have k16 : f13 i4 = some (.inl (cy 0, 66, .inl g1)) := hup hf13 (by omega) k10
  have k17 : u12 i4 = some (.inl (cy 0, 66, .inl (zf g1 0 (11 * 6)))) := hus e14
  refine lv_aload_n hx hb dX0_start_17 rfl (lv_at hl 0 rfl) ?_
  have k18 : u12 i0 = some (.inr (2, [.ref i1, .ref i3, .ref i5, .ref i7, .ref i9, .ref i11, .int v0, .int v1, .int v2, .int v3, .int v4])) := hup e14 (by omega) (hup hf13 (by omega) k8)
  refine g_get C0 G k18 rfl hiX0 2 (by decide) mf_X0_23 rfl dX0_start_18 ?_
  refine lv_bipush (v := 11) hx hb dX0_start_21 (by decide) ?_
  have k19 : u12 i5 = some (.inr (8, [.int 7, .ref i6, .int v7])) := hup e14 (by omega) (hup hf13 (by omega) (hup e4 (by omega) (hup hf3 (by omega) h_i5)))
  have k20 : u12 i6 = some (.inl (cy 0, 77, .inl g2)) := hup e14 (by omega) (hup hf13 (by omega) (hup e4 (by omega) (hup hf3 (by omega) h_i6)))
  refine g_cV C0 G (g_runV C0 G (rest := []) (k_X6_restart hfl (C := 7) 11 k19 k20 (by decide) (by decide) (by decide) (by decide)) k19 rfl hY_X6_restart mm_X0_56 mi_X6_restart ml_X6_restart ⟨(Nat.le_of_ble_eq_true rfl), (Nat.le_of_ble_eq_true rfl)⟩ rfl hl.1 rfl (Nat.le_of_ble_eq_true rfl) dX0_start_23 ⟨(Nat.le_of_ble_eq_true rfl), (Nat.le_of_ble_eq_true rfl)⟩) (kx_no rfl) (fun u22 H locs hp21 G => ?_)
  obtain ⟨f23, hf23⟩ : ∃ z, z = va_up u12 i5 (some (.inr (8, [.int 7, .ref i6, .int 11]))) := ⟨_, rfl⟩
  have e24 : u22 = va_up (va_up u12 i5 (some (.inr (8, [.int 7, .ref i6, .int 11])))) i6 (some (.inl (cy 0, 77, .inl (zf g2 0 (11 * 7))))) := hp21
  rw [← hf23] at e24
  have k25 : f23 i5 = some (.inr (8, [.int 7, .ref i6, .int 11])) := hus hf23
  have k26 : f23 i6 = some (.inl (cy 0, 77, .inl g2)) := hup hf23 (by omega) k20
  have k27 : u22 i6 = some (.inl (cy 0, 77, .inl (zf g2 0 (11 * 7)))) := hus e24
  refine lv_aload_n hx hb dX0_start_26 rfl (lv_at hl 0 rfl) ?_
  have k28 : u22 i0 = some (.inr (2, [.ref i1, .ref i3, .ref i5, .ref i7, .ref i9, .ref i11, .int v0, .int v1, .int v2, .int v3, .int v4])) := hup e24 (by omega) (hup hf23 (by omega) k18)
  refine g_get C0 G k28 rfl hiX0 3 (by decide) mf_X0_26 rfl dX0_start_27 ?_
  refine lv_iconst (v := 0) hx hb dX0_start_30 (by decide) ?_
  have k29 : u22 i7 = some (.inr (8, [.int 8, .ref i8, .int v8])) := hup e24 (by omega) (hup hf23 (by omega) (hup e14 (by omega) (hup hf13 (by omega) (hup e4 (by omega) (hup hf3 (by omega) h_i7)))))
  have k30 : u22 i8 = some (.inl (cy 0, 4104, .inl g3)) := hup e24 (by omega) (hup hf23 (by omega) (hup e14 (by omega) (hup hf13 (by omega) (hup e4 (by omega) (hup hf3 (by omega) h_i8)))))
  refine g_cV C0 G (g_runV C0 G (rest := []) (k_X6_restart hfl (C := 8) 0 k29 k30 (by decide) (by decide) (by decide) (by decide)) k29 rfl hY_X6_restart mm_X0_56 mi_X6_restart ml_X6_restart ⟨(Nat.le_of_ble_eq_true rfl), (Nat.le_of_ble_eq_true rfl)⟩ rfl hl.1 rfl (Nat.le_of_ble_eq_true rfl) dX0_start_31 ⟨(Nat.le_of_ble_eq_true rfl), (Nat.le_of_ble_eq_true rfl)⟩) (kx_no rfl) (fun u32 H locs hp31 G => ?_)
  obtain ⟨f33, hf33⟩ : ∃ z, z = va_up u22 i7 (some (.inr (8, [.int 8, .ref i8, .int 0]))) := ⟨_, rfl⟩
  have e34 : u32 = va_up (va_up u22 i7 (some (.inr (8, [.int 8, .ref i8, .int 0])))) i8 (some (.inl (cy 0, 4104, .inl (zf g3 0 (0 * 8))))) := hp31
  rw [← hf33] at e34
  have k35 : f33 i7 = some (.inr (8, [.int 8, .ref i8, .int 0])) := hus hf33
  have k36 : f33 i8 = some (.inl (cy 0, 4104, .inl g3)) := hup hf33 (by omega) k30
  have k37 : u32 i8 = some (.inl (cy 0, 4104, .inl (zf g3 0 (0 * 8)))) := hus e34
  refine lv_aload_n hx hb dX0_start_34 rfl (lv_at hl 0 rfl) ?_
  have k38 : u32 i0 = some (.inr (2, [.ref i1, .ref i3, .ref i5, .ref i7, .ref i9, .ref i11, .int v0, .int v1, .int v2, .int v3, .int v4])) := hup e34 (by omega) (hup hf33 (by omega) k28)
  refine g_get C0 G k38 rfl hiX0 4 (by decide) mf_X0_29 rfl dX0_start_35 ?_
  refine lv_iconst (v := 0) hx hb dX0_start_38 (by decide) ?_
  have k39 : u32 i9 = some (.inr (8, [.int 3, .ref i10, .int v9])) := hup e34 (by omega) (hup hf33 (by omega) (hup e24 (by omega) (hup hf23 (by omega) (hup e14 (by omega) (hup hf13 (by omega) (hup e4 (by omega) (hup hf3 (by omega) h_i9)))))))
  have k40 : u32 i10 = some (.inl (cy 0, 33, .inl g4)) := hup e34 (by omega) (hup hf33 (by omega) (hup e24 (by omega) (hup hf23 (by omega) (hup e14 (by omega) (hup hf13 (by omega) (hup e4 (by omega) (hup hf3 (by omega) h_i10)))))))
  refine g_cV C0 G (g_runV C0 G (rest := []) (k_X6_restart hfl (C := 3) 0 k39 k40 (by decide) (by decide) (by decide) (by decide)) k39 rfl hY_X6_restart mm_X0_56 mi_X6_restart ml_X6_restart ⟨(Nat.le_of_ble_eq_true rfl), (Nat.le_of_ble_eq_true rfl)⟩ rfl hl.1 rfl (Nat.le_of_ble_eq_true rfl) dX0_start_39 ⟨(Nat.le_of_ble_eq_true rfl), (Nat.le_of_ble_eq_true rfl)⟩) (kx_no rfl) (fun u42 H locs hp41 G => ?_)
  obtain ⟨f43, hf43⟩ : ∃ z, z = va_up u32 i9 (some (.inr (8, [.int 3, .ref i10, .int 0]))) := ⟨_, rfl⟩
  have e44 : u42 = va_up (va_up u32 i9 (some (.inr (8, [.int 3, .ref i10, .int 0])))) i10 (some (.inl (cy 0, 33, .inl (zf g4 0 (0 * 3))))) := hp41
  rw [← hf43] at e44
  have k45 : f43 i9 = some (.inr (8, [.int 3, .ref i10, .int 0])) := hus hf43
  have k46 : f43 i10 = some (.inl (cy 0, 33, .inl g4)) := hup hf43 (by omega) k40
  have k47 : u42 i10 = some (.inl (cy 0, 33, .inl (zf g4 0 (0 * 3)))) := hus e44
  refine lv_aload_n hx hb dX0_start_42 rfl (lv_at hl 0 rfl) ?_
  have k48 : u42 i0 = some (.inr (2, [.ref i1, .ref i3, .ref i5, .ref i7, .ref i9, .ref i11, .int v0, .int v1, .int v2, .int v3, .int v4])) := hup e44 (by omega) (hup hf43 (by omega) k38)
  refine g_get C0 G k48 rfl hiX0 5 (by decide) mf_X0_35 rfl dX0_start_43 ?_
  refine lv_iload_n hx hb dX0_start_46 rfl (lv_at hl 1 rfl) ?_
  have k49 : u42 i11 = some (.inr (5, [.ref i12, .int v10, .int v11, .int v12, .int v13, .int v14, .int v15, .int v16, .int v17])) := hup e44 (by omega) (hup hf43 (by omega) (hup e34 (by omega) (hup hf33 (by omega) (hup e24 (by omega) (hup hf23 (by omega) (hup e14 (by omega) (hup hf13 (by omega) (hup e4 (by omega) (hup hf3 (by omega) h_i11)))))))))
  refine g_cV C0 G (g_runV C0 G (rest := []) (k_X3_start hfl lim k49) k49 rfl hY_X3_start mm_X0_60 mi_X3_start ml_X3_start ⟨(Nat.le_of_ble_eq_true rfl), (Nat.le_of_ble_eq_true rfl)⟩ rfl hl.1 rfl (Nat.le_of_ble_eq_true rfl) dX0_start_47 ⟨(Nat.le_of_ble_eq_true rfl), (Nat.le_of_ble_eq_true rfl)⟩) (kx_no rfl) (fun u51 H locs hp50 G => ?_)
  have k52 : u51 i11 = some (.inr (5, [.ref i12, .int lim, .int lim, .int 0, .int (-1), .int (-1), .int 0, .int 0, .int 0])) := hus hp50
  refine lv_iconst (v := 0) hx hb dX0_start_50 (by decide) ?_
  refine lv_istore_n (lv' := [(3, .int 0), (0, .ref i0), (1, .int lim), (2, .int hr9)]) hx hb dX0_start_51 rfl hl (by decide) rfl (fun ls hl => ?_)
  refine lv_iload_n hx hb dX0_start_52 rfl (lv_at hl 0 rfl) ?_
  refine lv_bipush (v := 11) hx hb dX0_start_53 (by decide) ?_
  refine lv_icmp_ge (tgt := 94) hx hb dX0_start_55 (by decide) (fun c53 => absurd c53 (by decide)) (fun _ => ?_)
  refine lv_aload_n hx hb dX0_start_58 rfl (lv_at hl 1 rfl) ?_
  have k54 : u51 i0 = some (.inr (2, [.ref i1, .ref i3, .ref i5, .ref i7, .ref i9, .ref i11, .int v0, .int v1, .int v2, .int v3, .int v4])) := hup hp50 (by omega) k48
  refine g_get C0 G k54 rfl hiX0 1 (by decide) mf_X0_20 rfl dX0_start_59 ?_
  refine lv_iload_n hx hb dX0_start_62 rfl (lv_at hl 0 rfl) ?_
  refine lv_iconst (v := 4) hx hb dX0_start_63 (by decide) ?_
  refine lv_iload_n hx hb dX0_start_64 rfl (lv_at hl 0 rfl) ?_
  refine lv_iconst (v := 2) hx hb dX0_start_65 (by decide) ?_
  refine lv_icmp_ge (tgt := 73) hx hb dX0_start_66 (by decide) (fun c55 => absurd c55 (by decide)) (fun _ => ?_)
  refine lv_iconst (v := (-1)) hx hb dX0_start_69 (by decide) ?_
  refine lv_goto (tgt := 75) hx hb dX0_start_70 (by decide) ?_
  have k56 : u51 i3 = some (.inr (8, [.int 6, .ref i4, .int 11])) := hup hp50 (by omega) (hup e44 (by omega) (hup hf43 (by omega) (hup e34 (by omega) (hup hf33 (by omega) (hup e24 (by omega) (hup hf23 (by omega) (hup e14 (by omega) k15)))))))
  have k57 : u51 i4 = some (.inl (cy 0, 66, .inl (zf g1 0 (11 * 6)))) := hup hp50 (by omega) (hup e44 (by omega) (hup hf43 (by omega) (hup e34 (by omega) (hup hf33 (by omega) (hup e24 (by omega) (hup hf23 (by omega) k17))))))
  refine g_cV C0 G (g_runV C0 G (rest := []) (k_X6_set hfl 0 4 (-1) k56 k57 (by decide)) k56 rfl hY_X6_set mm_X0_63 mi_X6_set ml_X6_set ⟨(Nat.le_of_ble_eq_true rfl), (Nat.le_of_ble_eq_true rfl)⟩ rfl hl.1 rfl (Nat.le_of_ble_eq_true rfl) dX0_start_75 ⟨(Nat.le_of_ble_eq_true rfl), (Nat.le_of_ble_eq_true rfl)⟩) (kx_no rfl) (fun u59 H locs hp58 G => ?_)
  have k60 : u59 i4 = some (.inl (cy 0, 66, .inl (tset 6 11 66 (zf g1 0 (11 * 6)) 0 4 (-1)))) := hus hp58
  refine lv_aload_n hx hb dX0_start_78 rfl (lv_at hl 1 rfl) ?_
  have k61 : u59 i0 = some (.inr (2, [.ref i1, .ref i3, .ref i5, .ref i7, .ref i9, .ref i11, .int v0, .int v1, .int v2, .int v3, .int v4])) := hup hp58 (by omega) k54
  refine g_get C0 G k61 rfl hiX0 1 (by decide) mf_X0_20 rfl dX0_start_79 ?_
  refine lv_iload_n hx hb dX0_start_82 rfl (lv_at hl 0 rfl) ?_
  refine lv_iconst (v := 5) hx hb dX0_start_83 (by decide) ?_
  refine lv_iconst (v := (-1)) hx hb dX0_start_84 (by decide) ?_
  have k62 : u59 i3 = some (.inr (8, [.int 6, .ref i4, .int 11])) := hup hp58 (by omega) k56
  refine g_cV C0 G (g_runV C0 G (rest := []) (k_X6_set hfl 0 5 (-1) k62 k60 (by decide)) k62 rfl hY_X6_set mm_X0_63 mi_X6_set ml_X6_set ⟨(Nat.le_of_ble_eq_true rfl), (Nat.le_of_ble_eq_true rfl)⟩ rfl hl.1 rfl (Nat.le_of_ble_eq_true rfl) dX0_start_85 ⟨(Nat.le_of_ble_eq_true rfl), (Nat.le_of_ble_eq_true rfl)⟩) (kx_no rfl) (fun u64 H locs hp63 G => ?_)
  have k65 : u64 i4 = some (.inl (cy 0, 66, .inl (tset 6 11 66 (tset 6 11 66 (zf g1 0 (11 * 6)) 0 4 (-1)) 0 5 (-1)))) := hus hp63
  refine lv_iinc (v := 1) (lv' := [(3, .int 1), (0, .ref i0), (1, .int lim), (2, .int hr9)]) hx hb dX0_start_88 hl (k := 0) rfl (by exact (by decide)) (by decide) rfl (fun ls hl => ?_)
  refine lv_goto (tgt := 52) hx hb dX0_start_91 (by decide) ?_
  refine lv_iload_n hx hb dX0_start_52 rfl (lv_at hl 0 rfl) ?_
  refine lv_bipush (v := 11) hx hb dX0_start_53 (by decide) ?_
  refine lv_icmp_ge (tgt := 94) hx hb dX0_start_55 (by decide) (fun c67 => absurd c67 (by decide)) (fun _ => ?_)
  refine lv_aload_n hx hb dX0_start_58 rfl (lv_at hl 1 rfl) ?_
  have k68 : u64 i0 = some (.inr (2, [.ref i1, .ref i3, .ref i5, .ref i7, .ref i9, .ref i11, .int v0, .int v1, .int v2, .int v3, .int v4])) := hup hp63 (by omega) k61
  refine g_get C0 G k68 rfl hiX0 1 (by decide) mf_X0_20 rfl dX0_start_59 ?_
  refine lv_iload_n hx hb dX0_start_62 rfl (lv_at hl 0 rfl) ?_
  refine lv_iconst (v := 4) hx hb dX0_start_63 (by decide) ?_
  refine lv_iload_n hx hb dX0_start_64 rfl (lv_at hl 0 rfl) ?_
  refine lv_iconst (v := 2) hx hb dX0_start_65 (by decide) ?_
  refine lv_icmp_ge (tgt := 73) hx hb dX0_start_66 (by decide) (fun c69 => absurd c69 (by decide)) (fun _ => ?_)
  refine lv_iconst (v := (-1)) hx hb dX0_start_69 (by decide) ?_
  refine lv_goto (tgt := 75) hx hb dX0_start_70 (by decide) ?_
  have k70 : u64 i3 = some (.inr (8, [.int 6, .ref i4, .int 11])) := hup hp63 (by omega) k62
  refine g_cV C0 G (g_runV C0 G (rest := []) (k_X6_set hfl 1 4 (-1) k70 k65 (by decide)) k70 rfl hY_X6_set mm_X0_63 mi_X6_set ml_X6_set ⟨(Nat.le_of_ble_eq_true rfl), (Nat.le_of_ble_eq_true rfl)⟩ rfl hl.1 rfl (Nat.le_of_ble_eq_true rfl) dX0_start_75 ⟨(Nat.le_of_ble_eq_true rfl), (Nat.le_of_ble_eq_true rfl)⟩) (kx_no rfl) (fun u72 H locs hp71 G => ?_)
  have k73 : u72 i4 = some (.inl (cy 0, 66, .inl (tset 6 11 66 (tset 6 11 66 (tset 6 11 66 (zf g1 0 (11 * 6)) 0 4 (-1)) 0 5 (-1)) 1 4 (-1)))) := hus hp71
  refine lv_aload_n hx hb dX0_start_78 rfl (lv_at hl 1 rfl) ?_
  have k74 : u72 i0 = some (.inr (2, [.ref i1, .ref i3, .ref i5, .ref i7, .ref i9, .ref i11, .int v0, .int v1, .int v2, .int v3, .int v4])) := hup hp71 (by omega) k68
  refine g_get C0 G k74 rfl hiX0 1 (by decide) mf_X0_20 rfl dX0_start_79 ?_
  refine lv_iload_n hx hb dX0_start_82 rfl (lv_at hl 0 rfl) ?_
  refine lv_iconst (v := 5) hx hb dX0_start_83 (by decide) ?_
  refine lv_iconst (v := (-1)) hx hb dX0_start_84 (by decide) ?_
  have k75 : u72 i3 = some (.inr (8, [.int 6, .ref i4, .int 11])) := hup hp71 (by omega) k70
  refine g_cV C0 G (g_runV C0 G (rest := []) (k_X6_set hfl 1 5 (-1) k75 k73 (by decide)) k75 rfl hY_X6_set mm_X0_63 mi_X6_set ml_X6_set ⟨(Nat.le_of_ble_eq_true rfl), (Nat.le_of_ble_eq_true rfl)⟩ rfl hl.1 rfl (Nat.le_of_ble_eq_true rfl) dX0_start_85 ⟨(Nat.le_of_ble_eq_true rfl), (Nat.le_of_ble_eq_true rfl)⟩) (kx_no rfl) (fun u77 H locs hp76 G => ?_)
  have k78 : u77 i4 = some (.inl (cy 0, 66, .inl (tset 6 11 66 (tset 6 11 66 (tset 6 11 66 (tset 6 11 66 (zf g1 0 (11 * 6)) 0 4 (-1)) 0 5 (-1)) 1 4 (-1)) 1 5 (-1)))) := hus hp76
  refine lv_iinc (v := 2) (lv' := [(3, .int 2), (0, .ref i0), (1, .int lim), (2, .int hr9)]) hx hb dX0_start_88 hl (k := 0) rfl (by exact (by decide)) (by decide) rfl (fun ls hl => ?_)
  refine lv_goto (tgt := 52) hx hb dX0_start_91 (by decide) ?_
  refine lv_iload_n hx hb dX0_start_52 rfl (lv_at hl 0 rfl) ?_
  refine lv_bipush (v := 11) hx hb dX0_start_53 (by decide) ?_
  refine lv_icmp_ge (tgt := 94) hx hb dX0_start_55 (by decide) (fun c80 => absurd c80 (by decide)) (fun _ => ?_)
  refine lv_aload_n hx hb dX0_start_58 rfl (lv_at hl 1 rfl) ?_
  have k81 : u77 i0 = some (.inr (2, [.ref i1, .ref i3, .ref i5, .ref i7, .ref i9, .ref i11, .int v0, .int v1, .int v2, .int v3, .int v4])) := hup hp76 (by omega) k74
  refine g_get C0 G k81 rfl hiX0 1 (by decide) mf_X0_20 rfl dX0_start_59 ?_
  refine lv_iload_n hx hb dX0_start_62 rfl (lv_at hl 0 rfl) ?_
  refine lv_iconst (v := 4) hx hb dX0_start_63 (by decide) ?_
  refine lv_iload_n hx hb dX0_start_64 rfl (lv_at hl 0 rfl) ?_
  refine lv_iconst (v := 2) hx hb dX0_start_65 (by decide) ?_
  refine lv_icmp_ge (tgt := 73) hx hb dX0_start_66 (by decide) (fun _ => ?_) (fun c82 => absurd (by decide) c82)
  refine lv_bipush (v := (-2)) hx hb dX0_start_73 (by decide) ?_
  have k83 : u77 i3 = some (.inr (8, [.int 6, .ref i4, .int 11])) := hup hp76 (by omega) k75
  refine g_cV C0 G (g_runV C0 G (rest := []) (k_X6_set hfl 2 4 (-2) k83 k78 (by decide)) k83 rfl hY_X6_set mm_X0_63 mi_X6_set ml_X6_set ⟨(Nat.le_of_ble_eq_true rfl), (Nat.le_of_ble_eq_true rfl)⟩ rfl hl.1 rfl (Nat.le_of_ble_eq_true rfl) dX0_start_75 ⟨(Nat.le_of_ble_eq_true rfl), (Nat.le_of_ble_eq_true rfl)⟩) (kx_no rfl) (fun u85 H locs hp84 G => ?_)
  have k86 : u85 i4 = some (.inl (cy 0, 66, .inl (tset 6 11 66 (tset 6 11 66 (tset 6 11 66 (tset 6 11 66 (tset 6 11 66 (zf g1 0 (11 * 6)) 0 4 (-1)) 0 5 (-1)) 1 4 (-1)) 1 5 (-1)) 2 4 (-2)))) := hus hp84
  refine lv_aload_n hx hb dX0_start_78 rfl (lv_at hl 1 rfl) ?_
  have k87 : u85 i0 = some (.inr (2, [.ref i1, .ref i3, .ref i5, .ref i7, .ref i9, .ref i11, .int v0, .int v1, .int v2, .int v3, .int v4])) := hup hp84 (by omega) k81
  refine g_get C0 G k87 rfl hiX0 1 (by decide) mf_X0_20 rfl dX0_start_79 ?_
  refine lv_iload_n hx hb dX0_start_82 rfl (lv_at hl 0 rfl) ?_
  refine lv_iconst (v := 5) hx hb dX0_start_83 (by decide) ?_
  refine lv_iconst (v := (-1)) hx hb dX0_start_84 (by decide) ?_
  have k88 : u85 i3 = some (.inr (8, [.int 6, .ref i4, .int 11])) := hup hp84 (by omega) k83
  refine g_cV C0 G (g_runV C0 G (rest := []) (k_X6_set hfl 2 5 (-1) k88 k86 (by decide)) k88 rfl hY_X6_set mm_X0_63 mi_X6_set ml_X6_set ⟨(Nat.le_of_ble_eq_true rfl), (Nat.le_of_ble_eq_true rfl)⟩ rfl hl.1 rfl (Nat.le_of_ble_eq_true rfl) dX0_start_85 ⟨(Nat.le_of_ble_eq_true rfl), (Nat.le_of_ble_eq_true rfl)⟩) (kx_no rfl) (fun u90 H locs hp89 G => ?_)
  have k91 : u90 i4 = some (.inl (cy 0, 66, .inl (tset 6 11 66 (tset 6 11 66 (tset 6 11 66 (tset 6 11 66 (tset 6 11 66 (tset 6 11 66 (zf g1 0 (11 * 6)) 0 4 (-1)) 0 5 (-1)) 1 4 (-1)) 1 5 (-1)) 2 4 (-2)) 2 5 (-1)))) := hus hp89
  refine lv_iinc (v := 3) (lv' := [(3, .int 3), (0, .ref i0), (1, .int lim), (2, .int hr9)]) hx hb dX0_start_88 hl (k := 0) rfl (by exact (by decide)) (by decide) rfl (fun ls hl => ?_)
  refine lv_goto (tgt := 52) hx hb dX0_start_91 (by decide) ?_
  refine lv_iload_n hx hb dX0_start_52 rfl (lv_at hl 0 rfl) ?_
  refine lv_bipush (v := 11) hx hb dX0_start_53 (by decide) ?_
  refine lv_icmp_ge (tgt := 94) hx hb dX0_start_55 (by decide) (fun c93 => absurd c93 (by decide)) (fun _ => ?_)
  refine lv_aload_n hx hb dX0_start_58 rfl (lv_at hl 1 rfl) ?_
  have k94 : u90 i0 = some (.inr (2, [.ref i1, .ref i3, .ref i5, .ref i7, .ref i9, .ref i11, .int v0, .int v1, .int v2, .int v3, .int v4])) := hup hp89 (by omega) k87
  refine g_get C0 G k94 rfl hiX0 1 (by decide) mf_X0_20 rfl dX0_start_59 ?_
  refine lv_iload_n hx hb dX0_start_62 rfl (lv_at hl 0 rfl) ?_
  refine lv_iconst (v := 4) hx hb dX0_start_63 (by decide) ?_
  refine lv_iload_n hx hb dX0_start_64 rfl (lv_at hl 0 rfl) ?_
  refine lv_iconst (v := 2) hx hb dX0_start_65 (by decide) ?_
  refine lv_icmp_ge (tgt := 73) hx hb dX0_start_66 (by decide) (fun _ => ?_) (fun c95 => absurd (by decide) c95)
  refine lv_bipush (v := (-2)) hx hb dX0_start_73 (by decide) ?_
  have k96 : u90 i3 = some (.inr (8, [.int 6, .ref i4, .int 11])) := hup hp89 (by omega) k88
  refine g_cV C0 G (g_runV C0 G (rest := []) (k_X6_set hfl 3 4 (-2) k96 k91 (by decide)) k96 rfl hY_X6_set mm_X0_63 mi_X6_set ml_X6_set ⟨(Nat.le_of_ble_eq_true rfl), (Nat.le_of_ble_eq_true rfl)⟩ rfl hl.1 rfl (Nat.le_of_ble_eq_true rfl) dX0_start_75 ⟨(Nat.le_of_ble_eq_true rfl), (Nat.le_of_ble_eq_true rfl)⟩) (kx_no rfl) (fun u98 H locs hp97 G => ?_)
  have k99 : u98 i4 = some (.inl (cy 0, 66, .inl (tset 6 11 66 (tset 6 11 66 (tset 6 11 66 (tset 6 11 66 (tset 6 11 66 (tset 6 11 66 (tset 6 11 66 (zf g1 0 (11 * 6)) 0 4 (-1)) 0 5 (-1)) 1 4 (-1)) 1 5 (-1)) 2 4 (-2)) 2 5 (-1)) 3 4 (-2)))) := hus hp97
  refine lv_aload_n hx hb dX0_start_78 rfl (lv_at hl 1 rfl) ?_
  have k100 : u98 i0 = some (.inr (2, [.ref i1, .ref i3, .ref i5, .ref i7, .ref i9, .ref i11, .int v0, .int v1, .int v2, .int v3, .int v4])) := hup hp97 (by omega) k94
  refine g_get C0 G k100 rfl hiX0 1 (by decide) mf_X0_20 rfl dX0_start_79 ?_
  refine lv_iload_n hx hb dX0_start_82 rfl (lv_at hl 0 rfl) ?_
  refine lv_iconst (v := 5) hx hb dX0_start_83 (by decide) ?_
  refine lv_iconst (v := (-1)) hx hb dX0_start_84 (by decide) ?_
  have k101 : u98 i3 = some (.inr (8, [.int 6, .ref i4, .int 11])) := hup hp97 (by omega) k96
  refine g_cV C0 G (g_runV C0 G (rest := []) (k_X6_set hfl 3 5 (-1) k101 k99 (by decide)) k101 rfl hY_X6_set mm_X0_63 mi_X6_set ml_X6_set ⟨(Nat.le_of_ble_eq_true rfl), (Nat.le_of_ble_eq_true rfl)⟩ rfl hl.1 rfl (Nat.le_of_ble_eq_true rfl) dX0_start_85 ⟨(Nat.le_of_ble_eq_true rfl), (Nat.le_of_ble_eq_true rfl)⟩) (kx_no rfl) (fun u103 H locs hp102 G => ?_)
  have k104 : u103 i4 = some (.inl (cy 0, 66, .inl (tset 6 11 66 (tset 6 11 66 (tset 6 11 66 (tset 6 11 66 (tset 6 11 66 (tset 6 11 66 (tset 6 11 66 (tset 6 11 66 (zf g1 0 (11 * 6)) 0 4 (-1)) 0 5 (-1)) 1 4 (-1)) 1 5 (-1)) 2 4 (-2)) 2 5 (-1)) 3 4 (-2)) 3 5 (-1)))) := hus hp102
  refine lv_iinc (v := 4) (lv' := [(3, .int 4), (0, .ref i0), (1, .int lim), (2, .int hr9)]) hx hb dX0_start_88 hl (k := 0) rfl (by exact (by decide)) (by decide) rfl (fun ls hl => ?_)
  refine lv_goto (tgt := 52) hx hb dX0_start_91 (by decide) ?_
  refine lv_iload_n hx hb dX0_start_52 rfl (lv_at hl 0 rfl) ?_
  refine lv_bipush (v := 11) hx hb dX0_start_53 (by decide) ?_
  refine lv_icmp_ge (tgt := 94) hx hb dX0_start_55 (by decide) (fun c106 => absurd c106 (by decide)) (fun _ => ?_)
  refine lv_aload_n hx hb dX0_start_58 rfl (lv_at hl 1 rfl) ?_
  have k107 : u103 i0 = some (.inr (2, [.ref i1, .ref i3, .ref i5, .ref i7, .ref i9, .ref i11, .int v0, .int v1, .int v2, .int v3, .int v4])) := hup hp102 (by omega) k100
  refine g_get C0 G k107 rfl hiX0 1 (by decide) mf_X0_20 rfl dX0_start_59 ?_
  refine lv_iload_n hx hb dX0_start_62 rfl (lv_at hl 0 rfl) ?_
  refine lv_iconst (v := 4) hx hb dX0_start_63 (by decide) ?_
  refine lv_iload_n hx hb dX0_start_64 rfl (lv_at hl 0 rfl) ?_
  refine lv_iconst (v := 2) hx hb dX0_start_65 (by decide) ?_
  refine lv_icmp_ge (tgt := 73) hx hb dX0_start_66 (by decide) (fun _ => ?_) (fun c108 => absurd (by decide) c108)
  refine lv_bipush (v := (-2)) hx hb dX0_start_73 (by decide) ?_
  have k109 : u103 i3 = some (.inr (8, [.int 6, .ref i4, .int 11])) := hup hp102 (by omega) k101
  refine g_cV C0 G (g_runV C0 G (rest := []) (k_X6_set hfl 4 4 (-2) k109 k104 (by decide)) k109 rfl hY_X6_set mm_X0_63 mi_X6_set ml_X6_set ⟨(Nat.le_of_ble_eq_true rfl), (Nat.le_of_ble_eq_true rfl)⟩ rfl hl.1 rfl (Nat.le_of_ble_eq_true rfl) dX0_start_75 ⟨(Nat.le_of_ble_eq_true rfl), (Nat.le_of_ble_eq_true rfl)⟩) (kx_no rfl) (fun u111 H locs hp110 G => ?_)
  have k112 : u111 i4 = some (.inl (cy 0, 66, .inl (tset 6 11 66 (tset 6 11 66 (tset 6 11 66 (tset 6 11 66 (tset 6 11 66 (tset 6 11 66 (tset 6 11 66 (tset 6 11 66 (tset 6 11 66 (zf g1 0 (11 * 6)) 0 4 (-1)) 0 5 (-1)) 1 4 (-1)) 1 5 (-1)) 2 4 (-2)) 2 5 (-1)) 3 4 (-2)) 3 5 (-1)) 4 4 (-2)))) := hus hp110
  refine lv_aload_n hx hb dX0_start_78 rfl (lv_at hl 1 rfl) ?_
  have k113 : u111 i0 = some (.inr (2, [.ref i1, .ref i3, .ref i5, .ref i7, .ref i9, .ref i11, .int v0, .int v1, .int v2, .int v3, .int v4])) := hup hp110 (by omega) k107
  refine g_get C0 G k113 rfl hiX0 1 (by decide) mf_X0_20 rfl dX0_start_79 ?_
  refine lv_iload_n hx hb dX0_start_82 rfl (lv_at hl 0 rfl) ?_
  refine lv_iconst (v := 5) hx hb dX0_start_83 (by decide) ?_
  refine lv_iconst (v := (-1)) hx hb dX0_start_84 (by decide) ?_
  have k114 : u111 i3 = some (.inr (8, [.int 6, .ref i4, .int 11])) := hup hp110 (by omega) k109
  refine g_cV C0 G (g_runV C0 G (rest := []) (k_X6_set hfl 4 5 (-1) k114 k112 (by decide)) k114 rfl hY_X6_set mm_X0_63 mi_X6_set ml_X6_set ⟨(Nat.le_of_ble_eq_true rfl), (Nat.le_of_ble_eq_true rfl)⟩ rfl hl.1 rfl (Nat.le_of_ble_eq_true rfl) dX0_start_85 ⟨(Nat.le_of_ble_eq_true rfl), (Nat.le_of_ble_eq_true rfl)⟩) (kx_no rfl) (fun u116 H locs hp115 G => ?_)
  have k117 : u116 i4 = some (.inl (cy 0, 66, .inl (tset 6 11 66 (tset 6 11 66 (tset 6 11 66 (tset 6 11 66 (tset 6 11 66 (tset 6 11 66 (tset 6 11 66 (tset 6 11 66 (tset 6 11 66 (tset 6 11 66 (zf g1 0 (11 * 6)) 0 4 (-1)) 0 5 (-1)) 1 4 (-1)) 1 5 (-1)) 2 4 (-2)) 2 5 (-1)) 3 4 (-2)) 3 5 (-1)) 4 4 (-2)) 4 5 (-1)))) := hus hp115
  refine lv_iinc (v := 5) (lv' := [(3, .int 5), (0, .ref i0), (1, .int lim), (2, .int hr9)]) hx hb dX0_start_88 hl (k := 0) rfl (by exact (by decide)) (by decide) rfl (fun ls hl => ?_)
  refine lv_goto (tgt := 52) hx hb dX0_start_91 (by decide) ?_
  refine lv_iload_n hx hb dX0_start_52 rfl (lv_at hl 0 rfl) ?_
  refine lv_bipush (v := 11) hx hb dX0_start_53 (by decide) ?_
  refine lv_icmp_ge (tgt := 94) hx hb dX0_start_55 (by decide) (fun c119 => absurd c119 (by decide)) (fun _ => ?_)
  refine lv_aload_n hx hb dX0_start_58 rfl (lv_at hl 1 rfl) ?_
  have k120 : u116 i0 = some (.inr (2, [.ref i1, .ref i3, .ref i5, .ref i7, .ref i9, .ref i11, .int v0, .int v1, .int v2, .int v3, .int v4])) := hup hp115 (by omega) k113
  refine g_get C0 G k120 rfl hiX0 1 (by decide) mf_X0_20 rfl dX0_start_59 ?_
  refine lv_iload_n hx hb dX0_start_62 rfl (lv_at hl 0 rfl) ?_
  refine lv_iconst (v := 4) hx hb dX0_start_63 (by decide) ?_
  refine lv_iload_n hx hb dX0_start_64 rfl (lv_at hl 0 rfl) ?_
  refine lv_iconst (v := 2) hx hb dX0_start_65 (by decide) ?_
  refine lv_icmp_ge (tgt := 73) hx hb dX0_start_66 (by decide) (fun _ => ?_) (fun c121 => absurd (by decide) c121)
  refine lv_bipush (v := (-2)) hx hb dX0_start_73 (by decide) ?_
  have k122 : u116 i3 = some (.inr (8, [.int 6, .ref i4, .int 11])) := hup hp115 (by omega) k114
  refine g_cV C0 G (g_runV C0 G (rest := []) (k_X6_set hfl 5 4 (-2) k122 k117 (by decide)) k122 rfl hY_X6_set mm_X0_63 mi_X6_set ml_X6_set ⟨(Nat.le_of_ble_eq_true rfl), (Nat.le_of_ble_eq_true rfl)⟩ rfl hl.1 rfl (Nat.le_of_ble_eq_true rfl) dX0_start_75 ⟨(Nat.le_of_ble_eq_true rfl), (Nat.le_of_ble_eq_true rfl)⟩) (kx_no rfl) (fun u124 H locs hp123 G => ?_)
  have k125 : u124 i4 = some (.inl (cy 0, 66, .inl (tset 6 11 66 (tset 6 11 66 (tset 6 11 66 (tset 6 11 66 (tset 6 11 66 (tset 6 11 66 (tset 6 11 66 (tset 6 11 66 (tset 6 11 66 (tset 6 11 66 (tset 6 11 66 (zf g1 0 (11 * 6)) 0 4 (-1)) 0 5 (-1)) 1 4 (-1)) 1 5 (-1)) 2 4 (-2)) 2 5 (-1)) 3 4 (-2)) 3 5 (-1)) 4 4 (-2)) 4 5 (-1)) 5 4 (-2)))) := hus hp123
  refine lv_aload_n hx hb dX0_start_78 rfl (lv_at hl 1 rfl) ?_
  have k126 : u124 i0 = some (.inr (2, [.ref i1, .ref i3, .ref i5, .ref i7, .ref i9, .ref i11, .int v0, .int v1, .int v2, .int v3, .int v4])) := hup hp123 (by omega) k120
  refine g_get C0 G k126 rfl hiX0 1 (by decide) mf_X0_20 rfl dX0_start_79 ?_
  refine lv_iload_n hx hb dX0_start_82 rfl (lv_at hl 0 rfl) ?_
  refine lv_iconst (v := 5) hx hb dX0_start_83 (by decide) ?_
  refine lv_iconst (v := (-1)) hx hb dX0_start_84 (by decide) ?_
  have k127 : u124 i3 = some (.inr (8, [.int 6, .ref i4, .int 11])) := hup hp123 (by omega) k122
  refine g_cV C0 G (g_runV C0 G (rest := []) (k_X6_set hfl 5 5 (-1) k127 k125 (by decide)) k127 rfl hY_X6_set mm_X0_63 mi_X6_set ml_X6_set ⟨(Nat.le_of_ble_eq_true rfl), (Nat.le_of_ble_eq_true rfl)⟩ rfl hl.1 rfl (Nat.le_of_ble_eq_true rfl) dX0_start_85 ⟨(Nat.le_of_ble_eq_true rfl), (Nat.le_of_ble_eq_true rfl)⟩) (kx_no rfl) (fun u129 H locs hp128 G => ?_)
  have k130 : u129 i4 = some (.inl (cy 0, 66, .inl (tset 6 11 66 (tset 6 11 66 (tset 6 11 66 (tset 6 11 66 (tset 6 11 66 (tset 6 11 66 (tset 6 11 66 (tset 6 11 66 (tset 6 11 66 (tset 6 11 66 (tset 6 11 66 (tset 6 11 66 (zf g1 0 (11 * 6)) 0 4 (-1)) 0 5 (-1)) 1 4 (-1)) 1 5 (-1)) 2 4 (-2)) 2 5 (-1)) 3 4 (-2)) 3 5 (-1)) 4 4 (-2)) 4 5 (-1)) 5 4 (-2)) 5 5 (-1)))) := hus hp128
  refine lv_iinc (v := 6) (lv' := [(3, .int 6), (0, .ref i0), (1, .int lim), (2, .int hr9)]) hx hb dX0_start_88 hl (k := 0) rfl (by exact (by decide)) (by decide) rfl (fun ls hl => ?_)
  refine lv_goto (tgt := 52) hx hb dX0_start_91 (by decide) ?_
  refine lv_iload_n hx hb dX0_start_52 rfl (lv_at hl 0 rfl) ?_
  refine lv_bipush (v := 11) hx hb dX0_start_53 (by decide) ?_
  refine lv_icmp_ge (tgt := 94) hx hb dX0_start_55 (by decide) (fun c132 => absurd c132 (by decide)) (fun _ => ?_)
  refine lv_aload_n hx hb dX0_start_58 rfl (lv_at hl 1 rfl) ?_
  have k133 : u129 i0 = some (.inr (2, [.ref i1, .ref i3, .ref i5, .ref i7, .ref i9, .ref i11, .int v0, .int v1, .int v2, .int v3, .int v4])) := hup hp128 (by omega) k126
  refine g_get C0 G k133 rfl hiX0 1 (by decide) mf_X0_20 rfl dX0_start_59 ?_
  refine lv_iload_n hx hb dX0_start_62 rfl (lv_at hl 0 rfl) ?_
  refine lv_iconst (v := 4) hx hb dX0_start_63 (by decide) ?_
  refine lv_iload_n hx hb dX0_start_64 rfl (lv_at hl 0 rfl) ?_
  refine lv_iconst (v := 2) hx hb dX0_start_65 (by decide) ?_
  refine lv_icmp_ge (tgt := 73) hx hb dX0_start_66 (by decide) (fun _ => ?_) (fun c134 => absurd (by decide) c134)
  refine lv_bipush (v := (-2)) hx hb dX0_start_73 (by decide) ?_
  have k135 : u129 i3 = some (.inr (8, [.int 6, .ref i4, .int 11])) := hup hp128 (by omega) k127
  refine g_cV C0 G (g_runV C0 G (rest := []) (k_X6_set hfl 6 4 (-2) k135 k130 (by decide)) k135 rfl hY_X6_set mm_X0_63 mi_X6_set ml_X6_set ⟨(Nat.le_of_ble_eq_true rfl), (Nat.le_of_ble_eq_true rfl)⟩ rfl hl.1 rfl (Nat.le_of_ble_eq_true rfl) dX0_start_75 ⟨(Nat.le_of_ble_eq_true rfl), (Nat.le_of_ble_eq_true rfl)⟩) (kx_no rfl) (fun u137 H locs hp136 G => ?_)
  have k138 : u137 i4 = some (.inl (cy 0, 66, .inl (tset 6 11 66 (tset 6 11 66 (tset 6 11 66 (tset 6 11 66 (tset 6 11 66 (tset 6 11 66 (tset 6 11 66 (tset 6 11 66 (tset 6 11 66 (tset 6 11 66 (tset 6 11 66 (tset 6 11 66 (tset 6 11 66 (zf g1 0 (11 * 6)) 0 4 (-1)) 0 5 (-1)) 1 4 (-1)) 1 5 (-1)) 2 4 (-2)) 2 5 (-1)) 3 4 (-2)) 3 5 (-1)) 4 4 (-2)) 4 5 (-1)) 5 4 (-2)) 5 5 (-1)) 6 4 (-2)))) := hus hp136
  refine lv_aload_n hx hb dX0_start_78 rfl (lv_at hl 1 rfl) ?_
  have k139 : u137 i0 = some (.inr (2, [.ref i1, .ref i3, .ref i5, .ref i7, .ref i9, .ref i11, .int v0, .int v1, .int v2, .int v3, .int v4])) := hup hp136 (by omega) k133
  refine g_get C0 G k139 rfl hiX0 1 (by decide) mf_X0_20 rfl dX0_start_79 ?_
  refine lv_iload_n hx hb dX0_start_82 rfl (lv_at hl 0 rfl) ?_
  refine lv_iconst (v := 5) hx hb dX0_start_83 (by decide) ?_
  refine lv_iconst (v := (-1)) hx hb dX0_start_84 (by decide) ?_
  have k140 : u137 i3 = some (.inr (8, [.int 6, .ref i4, .int 11])) := hup hp136 (by omega) k135
  refine g_cV C0 G (g_runV C0 G (rest := []) (k_X6_set hfl 6 5 (-1) k140 k138 (by decide)) k140 rfl hY_X6_set mm_X0_63 mi_X6_set ml_X6_set ⟨(Nat.le_of_ble_eq_true rfl), (Nat.le_of_ble_eq_true rfl)⟩ rfl hl.1 rfl (Nat.le_of_ble_eq_true rfl) dX0_start_85 ⟨(Nat.le_of_ble_eq_true rfl), (Nat.le_of_ble_eq_true rfl)⟩) (kx_no rfl) (fun u142 H locs hp141 G => ?_)
  have k143 : u142 i4 = some (.inl (cy 0, 66, .inl (tset 6 11 66 (tset 6 11 66 (tset 6 11 66 (tset 6 11 66 (tset 6 11 66 (tset 6 11 66 (tset 6 11 66 (tset 6 11 66 (tset 6 11 66 (tset 6 11 66 (tset 6 11 66 (tset 6 11 66 (tset 6 11 66 (tset 6 11 66 (zf g1 0 (11 * 6)) 0 4 (-1)) 0 5 (-1)) 1 4 (-1)) 1 5 (-1)) 2 4 (-2)) 2 5 (-1)) 3 4 (-2)) 3 5 (-1)) 4 4 (-2)) 4 5 (-1)) 5 4 (-2)) 5 5 (-1)) 6 4 (-2)) 6 5 (-1)))) := hus hp141
  refine lv_iinc (v := 7) (lv' := [(3, .int 7), (0, .ref i0), (1, .int lim), (2, .int hr9)]) hx hb dX0_start_88 hl (k := 0) rfl (by exact (by decide)) (by decide) rfl (fun ls hl => ?_)
  refine lv_goto (tgt := 52) hx hb dX0_start_91 (by decide) ?_
  refine lv_iload_n hx hb dX0_start_52 rfl (lv_at hl 0 rfl) ?_
  refine lv_bipush (v := 11) hx hb dX0_start_53 (by decide) ?_
  refine lv_icmp_ge (tgt := 94) hx hb dX0_start_55 (by decide) (fun c145 => absurd c145 (by decide)) (fun _ => ?_)
  refine lv_aload_n hx hb dX0_start_58 rfl (lv_at hl 1 rfl) ?_
  have k146 : u142 i0 = some (.inr (2, [.ref i1, .ref i3, .ref i5, .ref i7, .ref i9, .ref i11, .int v0, .int v1, .int v2, .int v3, .int v4])) := hup hp141 (by omega) k139
  refine g_get C0 G k146 rfl hiX0 1 (by decide) mf_X0_20 rfl dX0_start_59 ?_
  refine lv_iload_n hx hb dX0_start_62 rfl (lv_at hl 0 rfl) ?_
  refine lv_iconst (v := 4) hx hb dX0_start_63 (by decide) ?_
  refine lv_iload_n hx hb dX0_start_64 rfl (lv_at hl 0 rfl) ?_
  refine lv_iconst (v := 2) hx hb dX0_start_65 (by decide) ?_
  refine lv_icmp_ge (tgt := 73) hx hb dX0_start_66 (by decide) (fun _ => ?_) (fun c147 => absurd (by decide) c147)
  refine lv_bipush (v := (-2)) hx hb dX0_start_73 (by decide) ?_
  have k148 : u142 i3 = some (.inr (8, [.int 6, .ref i4, .int 11])) := hup hp141 (by omega) k140
  refine g_cV C0 G (g_runV C0 G (rest := []) (k_X6_set hfl 7 4 (-2) k148 k143 (by decide)) k148 rfl hY_X6_set mm_X0_63 mi_X6_set ml_X6_set ⟨(Nat.le_of_ble_eq_true rfl), (Nat.le_of_ble_eq_true rfl)⟩ rfl hl.1 rfl (Nat.le_of_ble_eq_true rfl) dX0_start_75 ⟨(Nat.le_of_ble_eq_true rfl), (Nat.le_of_ble_eq_true rfl)⟩) (kx_no rfl) (fun u150 H locs hp149 G => ?_)
  have k151 : u150 i4 = some (.inl (cy 0, 66, .inl (tset 6 11 66 (tset 6 11 66 (tset 6 11 66 (tset 6 11 66 (tset 6 11 66 (tset 6 11 66 (tset 6 11 66 (tset 6 11 66 (tset 6 11 66 (tset 6 11 66 (tset 6 11 66 (tset 6 11 66 (tset 6 11 66 (tset 6 11 66 (tset 6 11 66 (zf g1 0 (11 * 6)) 0 4 (-1)) 0 5 (-1)) 1 4 (-1)) 1 5 (-1)) 2 4 (-2)) 2 5 (-1)) 3 4 (-2)) 3 5 (-1)) 4 4 (-2)) 4 5 (-1)) 5 4 (-2)) 5 5 (-1)) 6 4 (-2)) 6 5 (-1)) 7 4 (-2)))) := hus hp149
  refine lv_aload_n hx hb dX0_start_78 rfl (lv_at hl 1 rfl) ?_
  have k152 : u150 i0 = some (.inr (2, [.ref i1, .ref i3, .ref i5, .ref i7, .ref i9, .ref i11, .int v0, .int v1, .int v2, .int v3, .int v4])) := hup hp149 (by omega) k146
  refine g_get C0 G k152 rfl hiX0 1 (by decide) mf_X0_20 rfl dX0_start_79 ?_
  refine lv_iload_n hx hb dX0_start_82 rfl (lv_at hl 0 rfl) ?_
  refine lv_iconst (v := 5) hx hb dX0_start_83 (by decide) ?_
  refine lv_iconst (v := (-1)) hx hb dX0_start_84 (by decide) ?_
  have k153 : u150 i3 = some (.inr (8, [.int 6, .ref i4, .int 11])) := hup hp149 (by omega) k148
  refine g_cV C0 G (g_runV C0 G (rest := []) (k_X6_set hfl 7 5 (-1) k153 k151 (by decide)) k153 rfl hY_X6_set mm_X0_63 mi_X6_set ml_X6_set ⟨(Nat.le_of_ble_eq_true rfl), (Nat.le_of_ble_eq_true rfl)⟩ rfl hl.1 rfl (Nat.le_of_ble_eq_true rfl) dX0_start_85 ⟨(Nat.le_of_ble_eq_true rfl), (Nat.le_of_ble_eq_true rfl)⟩) (kx_no rfl) (fun u155 H locs hp154 G => ?_)
  have k156 : u155 i4 = some (.inl (cy 0, 66, .inl (tset 6 11 66 (tset 6 11 66 (tset 6 11 66 (tset 6 11 66 (tset 6 11 66 (tset 6 11 66 (tset 6 11 66 (tset 6 11 66 (tset 6 11 66 (tset 6 11 66 (tset 6 11 66 (tset 6 11 66 (tset 6 11 66 (tset 6 11 66 (tset 6 11 66 (tset 6 11 66 (zf g1 0 (11 * 6)) 0 4 (-1)) 0 5 (-1)) 1 4 (-1)) 1 5 (-1)) 2 4 (-2)) 2 5 (-1)) 3 4 (-2)) 3 5 (-1)) 4 4 (-2)) 4 5 (-1)) 5 4 (-2)) 5 5 (-1)) 6 4 (-2)) 6 5 (-1)) 7 4 (-2)) 7 5 (-1)))) := hus hp154
  refine lv_iinc (v := 8) (lv' := [(3, .int 8), (0, .ref i0), (1, .int lim), (2, .int hr9)]) hx hb dX0_start_88 hl (k := 0) rfl (by exact (by decide)) (by decide) rfl (fun ls hl => ?_)
  refine lv_goto (tgt := 52) hx hb dX0_start_91 (by decide) ?_
  refine lv_iload_n hx hb dX0_start_52 rfl (lv_at hl 0 rfl) ?_
  refine lv_bipush (v := 11) hx hb dX0_start_53 (by decide) ?_
  refine lv_icmp_ge (tgt := 94) hx hb dX0_start_55 (by decide) (fun c158 => absurd c158 (by decide)) (fun _ => ?_)
  refine lv_aload_n hx hb dX0_start_58 rfl (lv_at hl 1 rfl) ?_
  have k159 : u155 i0 = some (.inr (2, [.ref i1, .ref i3, .ref i5, .ref i7, .ref i9, .ref i11, .int v0, .int v1, .int v2, .int v3, .int v4])) := hup hp154 (by omega) k152
  refine g_get C0 G k159 rfl hiX0 1 (by decide) mf_X0_20 rfl dX0_start_59 ?_
  refine lv_iload_n hx hb dX0_start_62 rfl (lv_at hl 0 rfl) ?_
  refine lv_iconst (v := 4) hx hb dX0_start_63 (by decide) ?_
  refine lv_iload_n hx hb dX0_start_64 rfl (lv_at hl 0 rfl) ?_
  refine lv_iconst (v := 2) hx hb dX0_start_65 (by decide) ?_
  refine lv_icmp_ge (tgt := 73) hx hb dX0_start_66 (by decide) (fun _ => ?_) (fun c160 => absurd (by decide) c160)
  refine lv_bipush (v := (-2)) hx hb dX0_start_73 (by decide) ?_
  have k161 : u155 i3 = some (.inr (8, [.int 6, .ref i4, .int 11])) := hup hp154 (by omega) k153
  refine g_cV C0 G (g_runV C0 G (rest := []) (k_X6_set hfl 8 4 (-2) k161 k156 (by decide)) k161 rfl hY_X6_set mm_X0_63 mi_X6_set ml_X6_set ⟨(Nat.le_of_ble_eq_true rfl), (Nat.le_of_ble_eq_true rfl)⟩ rfl hl.1 rfl (Nat.le_of_ble_eq_true rfl) dX0_start_75 ⟨(Nat.le_of_ble_eq_true rfl), (Nat.le_of_ble_eq_true rfl)⟩) (kx_no rfl) (fun u163 H locs hp162 G => ?_)
  have k164 : u163 i4 = some (.inl (cy 0, 66, .inl (tset 6 11 66 (tset 6 11 66 (tset 6 11 66 (tset 6 11 66 (tset 6 11 66 (tset 6 11 66 (tset 6 11 66 (tset 6 11 66 (tset 6 11 66 (tset 6 11 66 (tset 6 11 66 (tset 6 11 66 (tset 6 11 66 (tset 6 11 66 (tset 6 11 66 (tset 6 11 66 (tset 6 11 66 (zf g1 0 (11 * 6)) 0 4 (-1)) 0 5 (-1)) 1 4 (-1)) 1 5 (-1)) 2 4 (-2)) 2 5 (-1)) 3 4 (-2)) 3 5 (-1)) 4 4 (-2)) 4 5 (-1)) 5 4 (-2)) 5 5 (-1)) 6 4 (-2)) 6 5 (-1)) 7 4 (-2)) 7 5 (-1)) 8 4 (-2)))) := hus hp162
  refine lv_aload_n hx hb dX0_start_78 rfl (lv_at hl 1 rfl) ?_
  have k165 : u163 i0 = some (.inr (2, [.ref i1, .ref i3, .ref i5, .ref i7, .ref i9, .ref i11, .int v0, .int v1, .int v2, .int v3, .int v4])) := hup hp162 (by omega) k159
  refine g_get C0 G k165 rfl hiX0 1 (by decide) mf_X0_20 rfl dX0_start_79 ?_
  refine lv_iload_n hx hb dX0_start_82 rfl (lv_at hl 0 rfl) ?_
  refine lv_iconst (v := 5) hx hb dX0_start_83 (by decide) ?_
  refine lv_iconst (v := (-1)) hx hb dX0_start_84 (by decide) ?_
  have k166 : u163 i3 = some (.inr (8, [.int 6, .ref i4, .int 11])) := hup hp162 (by omega) k161
  refine g_cV C0 G (g_runV C0 G (rest := []) (k_X6_set hfl 8 5 (-1) k166 k164 (by decide)) k166 rfl hY_X6_set mm_X0_63 mi_X6_set ml_X6_set ⟨(Nat.le_of_ble_eq_true rfl), (Nat.le_of_ble_eq_true rfl)⟩ rfl hl.1 rfl (Nat.le_of_ble_eq_true rfl) dX0_start_85 ⟨(Nat.le_of_ble_eq_true rfl), (Nat.le_of_ble_eq_true rfl)⟩) (kx_no rfl) (fun u168 H locs hp167 G => ?_)
  have k169 : u168 i4 = some (.inl (cy 0, 66, .inl (tset 6 11 66 (tset 6 11 66 (tset 6 11 66 (tset 6 11 66 (tset 6 11 66 (tset 6 11 66 (tset 6 11 66 (tset 6 11 66 (tset 6 11 66 (tset 6 11 66 (tset 6 11 66 (tset 6 11 66 (tset 6 11 66 (tset 6 11 66 (tset 6 11 66 (tset 6 11 66 (tset 6 11 66 (tset 6 11 66 (zf g1 0 (11 * 6)) 0 4 (-1)) 0 5 (-1)) 1 4 (-1)) 1 5 (-1)) 2 4 (-2)) 2 5 (-1)) 3 4 (-2)) 3 5 (-1)) 4 4 (-2)) 4 5 (-1)) 5 4 (-2)) 5 5 (-1)) 6 4 (-2)) 6 5 (-1)) 7 4 (-2)) 7 5 (-1)) 8 4 (-2)) 8 5 (-1)))) := hus hp167
  refine lv_iinc (v := 9) (lv' := [(3, .int 9), (0, .ref i0), (1, .int lim), (2, .int hr9)]) hx hb dX0_start_88 hl (k := 0) rfl (by exact (by decide)) (by decide) rfl (fun ls hl => ?_)
  refine lv_goto (tgt := 52) hx hb dX0_start_91 (by decide) ?_
  refine lv_iload_n hx hb dX0_start_52 rfl (lv_at hl 0 rfl) ?_
  refine lv_bipush (v := 11) hx hb dX0_start_53 (by decide) ?_
  refine lv_icmp_ge (tgt := 94) hx hb dX0_start_55 (by decide) (fun c171 => absurd c171 (by decide)) (fun _ => ?_)
  refine lv_aload_n hx hb dX0_start_58 rfl (lv_at hl 1 rfl) ?_
  have k172 : u168 i0 = some (.inr (2, [.ref i1, .ref i3, .ref i5, .ref i7, .ref i9, .ref i11, .int v0, .int v1, .int v2, .int v3, .int v4])) := hup hp167 (by omega) k165
  refine g_get C0 G k172 rfl hiX0 1 (by decide) mf_X0_20 rfl dX0_start_59 ?_
  refine lv_iload_n hx hb dX0_start_62 rfl (lv_at hl 0 rfl) ?_
  refine lv_iconst (v := 4) hx hb dX0_start_63 (by decide) ?_
  refine lv_iload_n hx hb dX0_start_64 rfl (lv_at hl 0 rfl) ?_
  refine lv_iconst (v := 2) hx hb dX0_start_65 (by decide) ?_
  refine lv_icmp_ge (tgt := 73) hx hb dX0_start_66 (by decide) (fun _ => ?_) (fun c173 => absurd (by decide) c173)
  refine lv_bipush (v := (-2)) hx hb dX0_start_73 (by decide) ?_
  have k174 : u168 i3 = some (.inr (8, [.int 6, .ref i4, .int 11])) := hup hp167 (by omega) k166
  refine g_cV C0 G (g_runV C0 G (rest := []) (k_X6_set hfl 9 4 (-2) k174 k169 (by decide)) k174 rfl hY_X6_set mm_X0_63 mi_X6_set ml_X6_set ⟨(Nat.le_of_ble_eq_true rfl), (Nat.le_of_ble_eq_true rfl)⟩ rfl hl.1 rfl (Nat.le_of_ble_eq_true rfl) dX0_start_75 ⟨(Nat.le_of_ble_eq_true rfl), (Nat.le_of_ble_eq_true rfl)⟩) (kx_no rfl) (fun u176 H locs hp175 G => ?_)
  have k177 : u176 i4 = some (.inl (cy 0, 66, .inl (tset 6 11 66 (tset 6 11 66 (tset 6 11 66 (tset 6 11 66 (tset 6 11 66 (tset 6 11 66 (tset 6 11 66 (tset 6 11 66 (tset 6 11 66 (tset 6 11 66 (tset 6 11 66 (tset 6 11 66 (tset 6 11 66 (tset 6 11 66 (tset 6 11 66 (tset 6 11 66 (tset 6 11 66 (tset 6 11 66 (tset 6 11 66 (zf g1 0 (11 * 6)) 0 4 (-1)) 0 5 (-1)) 1 4 (-1)) 1 5 (-1)) 2 4 (-2)) 2 5 (-1)) 3 4 (-2)) 3 5 (-1)) 4 4 (-2)) 4 5 (-1)) 5 4 (-2)) 5 5 (-1)) 6 4 (-2)) 6 5 (-1)) 7 4 (-2)) 7 5 (-1)) 8 4 (-2)) 8 5 (-1)) 9 4 (-2)))) := hus hp175
  refine lv_aload_n hx hb dX0_start_78 rfl (lv_at hl 1 rfl) ?_
  have k178 : u176 i0 = some (.inr (2, [.ref i1, .ref i3, .ref i5, .ref i7, .ref i9, .ref i11, .int v0, .int v1, .int v2, .int v3, .int v4])) := hup hp175 (by omega) k172
  refine g_get C0 G k178 rfl hiX0 1 (by decide) mf_X0_20 rfl dX0_start_79 ?_
  refine lv_iload_n hx hb dX0_start_82 rfl (lv_at hl 0 rfl) ?_
  refine lv_iconst (v := 5) hx hb dX0_start_83 (by decide) ?_
  refine lv_iconst (v := (-1)) hx hb dX0_start_84 (by decide) ?_
  have k179 : u176 i3 = some (.inr (8, [.int 6, .ref i4, .int 11])) := hup hp175 (by omega) k174
  refine g_cV C0 G (g_runV C0 G (rest := []) (k_X6_set hfl 9 5 (-1) k179 k177 (by decide)) k179 rfl hY_X6_set mm_X0_63 mi_X6_set ml_X6_set ⟨(Nat.le_of_ble_eq_true rfl), (Nat.le_of_ble_eq_true rfl)⟩ rfl hl.1 rfl (Nat.le_of_ble_eq_true rfl) dX0_start_85 ⟨(Nat.le_of_ble_eq_true rfl), (Nat.le_of_ble_eq_true rfl)⟩) (kx_no rfl) (fun u181 H locs hp180 G => ?_)
  have k182 : u181 i4 = some (.inl (cy 0, 66, .inl (tset 6 11 66 (tset 6 11 66 (tset 6 11 66 (tset 6 11 66 (tset 6 11 66 (tset 6 11 66 (tset 6 11 66 (tset 6 11 66 (tset 6 11 66 (tset 6 11 66 (tset 6 11 66 (tset 6 11 66 (tset 6 11 66 (tset 6 11 66 (tset 6 11 66 (tset 6 11 66 (tset 6 11 66 (tset 6 11 66 (tset 6 11 66 (tset 6 11 66 (zf g1 0 (11 * 6)) 0 4 (-1)) 0 5 (-1)) 1 4 (-1)) 1 5 (-1)) 2 4 (-2)) 2 5 (-1)) 3 4 (-2)) 3 5 (-1)) 4 4 (-2)) 4 5 (-1)) 5 4 (-2)) 5 5 (-1)) 6 4 (-2)) 6 5 (-1)) 7 4 (-2)) 7 5 (-1)) 8 4 (-2)) 8 5 (-1)) 9 4 (-2)) 9 5 (-1)))) := hus hp180
  refine lv_iinc (v := 10) (lv' := [(3, .int 10), (0, .ref i0), (1, .int lim), (2, .int hr9)]) hx hb dX0_start_88 hl (k := 0) rfl (by exact (by decide)) (by decide) rfl (fun ls hl => ?_)
  refine lv_goto (tgt := 52) hx hb dX0_start_91 (by decide) ?_
  refine lv_iload_n hx hb dX0_start_52 rfl (lv_at hl 0 rfl) ?_
  refine lv_bipush (v := 11) hx hb dX0_start_53 (by decide) ?_
  refine lv_icmp_ge (tgt := 94) hx hb dX0_start_55 (by decide) (fun c184 => absurd c184 (by decide)) (fun _ => ?_)
  refine lv_aload_n hx hb dX0_start_58 rfl (lv_at hl 1 rfl) ?_
  have k185 : u181 i0 = some (.inr (2, [.ref i1, .ref i3, .ref i5, .ref i7, .ref i9, .ref i11, .int v0, .int v1, .int v2, .int v3, .int v4])) := hup hp180 (by omega) k178
  refine g_get C0 G k185 rfl hiX0 1 (by decide) mf_X0_20 rfl dX0_start_59 ?_
  refine lv_iload_n hx hb dX0_start_62 rfl (lv_at hl 0 rfl) ?_
  refine lv_iconst (v := 4) hx hb dX0_start_63 (by decide) ?_
  refine lv_iload_n hx hb dX0_start_64 rfl (lv_at hl 0 rfl) ?_
  refine lv_iconst (v := 2) hx hb dX0_start_65 (by decide) ?_
  refine lv_icmp_ge (tgt := 73) hx hb dX0_start_66 (by decide) (fun _ => ?_) (fun c186 => absurd (by decide) c186)
  refine lv_bipush (v := (-2)) hx hb dX0_start_73 (by decide) ?_
  have k187 : u181 i3 = some (.inr (8, [.int 6, .ref i4, .int 11])) := hup hp180 (by omega) k179
  refine g_cV C0 G (g_runV C0 G (rest := []) (k_X6_set hfl 10 4 (-2) k187 k182 (by decide)) k187 rfl hY_X6_set mm_X0_63 mi_X6_set ml_X6_set ⟨(Nat.le_of_ble_eq_true rfl), (Nat.le_of_ble_eq_true rfl)⟩ rfl hl.1 rfl (Nat.le_of_ble_eq_true rfl) dX0_start_75 ⟨(Nat.le_of_ble_eq_true rfl), (Nat.le_of_ble_eq_true rfl)⟩) (kx_no rfl) (fun u189 H locs hp188 G => ?_)
  have k190 : u189 i4 = some (.inl (cy 0, 66, .inl (tset 6 11 66 (tset 6 11 66 (tset 6 11 66 (tset 6 11 66 (tset 6 11 66 (tset 6 11 66 (tset 6 11 66 (tset 6 11 66 (tset 6 11 66 (tset 6 11 66 (tset 6 11 66 (tset 6 11 66 (tset 6 11 66 (tset 6 11 66 (tset 6 11 66 (tset 6 11 66 (tset 6 11 66 (tset 6 11 66 (tset 6 11 66 (tset 6 11 66 (tset 6 11 66 (zf g1 0 (11 * 6)) 0 4 (-1)) 0 5 (-1)) 1 4 (-1)) 1 5 (-1)) 2 4 (-2)) 2 5 (-1)) 3 4 (-2)) 3 5 (-1)) 4 4 (-2)) 4 5 (-1)) 5 4 (-2)) 5 5 (-1)) 6 4 (-2)) 6 5 (-1)) 7 4 (-2)) 7 5 (-1)) 8 4 (-2)) 8 5 (-1)) 9 4 (-2)) 9 5 (-1)) 10 4 (-2)))) := hus hp188
  refine lv_aload_n hx hb dX0_start_78 rfl (lv_at hl 1 rfl) ?_
  have k191 : u189 i0 = some (.inr (2, [.ref i1, .ref i3, .ref i5, .ref i7, .ref i9, .ref i11, .int v0, .int v1, .int v2, .int v3, .int v4])) := hup hp188 (by omega) k185
  refine g_get C0 G k191 rfl hiX0 1 (by decide) mf_X0_20 rfl dX0_start_79 ?_
  refine lv_iload_n hx hb dX0_start_82 rfl (lv_at hl 0 rfl) ?_
  refine lv_iconst (v := 5) hx hb dX0_start_83 (by decide) ?_
  refine lv_iconst (v := (-1)) hx hb dX0_start_84 (by decide) ?_
  have k192 : u189 i3 = some (.inr (8, [.int 6, .ref i4, .int 11])) := hup hp188 (by omega) k187
  refine g_cV C0 G (g_runV C0 G (rest := []) (k_X6_set hfl 10 5 (-1) k192 k190 (by decide)) k192 rfl hY_X6_set mm_X0_63 mi_X6_set ml_X6_set ⟨(Nat.le_of_ble_eq_true rfl), (Nat.le_of_ble_eq_true rfl)⟩ rfl hl.1 rfl (Nat.le_of_ble_eq_true rfl) dX0_start_85 ⟨(Nat.le_of_ble_eq_true rfl), (Nat.le_of_ble_eq_true rfl)⟩) (kx_no rfl) (fun u194 H locs hp193 G => ?_)
  have k195 : u194 i4 = some (.inl (cy 0, 66, .inl (tset 6 11 66 (tset 6 11 66 (tset 6 11 66 (tset 6 11 66 (tset 6 11 66 (tset 6 11 66 (tset 6 11 66 (tset 6 11 66 (tset 6 11 66 (tset 6 11 66 (tset 6 11 66 (tset 6 11 66 (tset 6 11 66 (tset 6 11 66 (tset 6 11 66 (tset 6 11 66 (tset 6 11 66 (tset 6 11 66 (tset 6 11 66 (tset 6 11 66 (tset 6 11 66 (tset 6 11 66 (zf g1 0 (11 * 6)) 0 4 (-1)) 0 5 (-1)) 1 4 (-1)) 1 5 (-1)) 2 4 (-2)) 2 5 (-1)) 3 4 (-2)) 3 5 (-1)) 4 4 (-2)) 4 5 (-1)) 5 4 (-2)) 5 5 (-1)) 6 4 (-2)) 6 5 (-1)) 7 4 (-2)) 7 5 (-1)) 8 4 (-2)) 8 5 (-1)) 9 4 (-2)) 9 5 (-1)) 10 4 (-2)) 10 5 (-1)))) := hus hp193
  refine lv_iinc (v := 11) (lv' := [(3, .int 11), (0, .ref i0), (1, .int lim), (2, .int hr9)]) hx hb dX0_start_88 hl (k := 0) rfl (by exact (by decide)) (by decide) rfl (fun ls hl => ?_)
  refine lv_goto (tgt := 52) hx hb dX0_start_91 (by decide) ?_
  refine lv_iload_n hx hb dX0_start_52 rfl (lv_at hl 0 rfl) ?_
  refine lv_bipush (v := 11) hx hb dX0_start_53 (by decide) ?_
  refine lv_icmp_ge (tgt := 94) hx hb dX0_start_55 (by decide) (fun _ => ?_) (fun c197 => absurd (by decide) c197)
  refine lv_aload_n hx hb dX0_start_94 rfl (lv_at hl 1 rfl) ?_
  refine lv_iload_n hx hb dX0_start_95 rfl (lv_at hl 3 rfl) ?_
  refine lv_if_eq (tgt := 106) hx hb dX0_start_96 (by decide) (fun c198 => ?_) (fun c198 => ?_)
  · refine lv_iconst (v := 0) hx hb dX0_start_106 (by decide) ?_
    have k199 : u194 i0 = some (.inr (2, [.ref i1, .ref i3, .ref i5, .ref i7, .ref i9, .ref i11, .int v0, .int v1, .int v2, .int v3, .int v4])) := hup hp193 (by omega) k191
    refine g_put C0 G k199 rfl hiX0 tyX0 tyX0_ok nmX0 6 (by decide) mf_X0_39 rfl rfl rfl rfl (Nat.le_of_ble_eq_true rfl) dX0_start_107 (fun H locs f200 hf200 G => ?_)
    have k201 : f200 i0 = some (.inr (2, [.ref i1, .ref i3, .ref i5, .ref i7, .ref i9, .ref i11, .int 0, .int v1, .int v2, .int v3, .int v4])) := hus hf200
    refine lv_aload_n hx hb dX0_start_110 rfl (lv_at hl 1 rfl) ?_
    refine lv_iconst (v := 0) hx hb dX0_start_111 (by decide) ?_
    refine g_put C0 G k201 rfl hiX0 tyX0 tyX0_ok nmX0 7 (by decide) mf_X0_43 rfl rfl rfl rfl (Nat.le_of_ble_eq_true rfl) dX0_start_112 (fun H locs f202 hf202 G => ?_)
    have k203 : f202 i0 = some (.inr (2, [.ref i1, .ref i3, .ref i5, .ref i7, .ref i9, .ref i11, .int 0, .int 0, .int v2, .int v3, .int v4])) := hus hf202
    refine lv_aload_n hx hb dX0_start_115 rfl (lv_at hl 1 rfl) ?_
    refine lv_iconst (v := 1) hx hb dX0_start_116 (by decide) ?_
    refine g_put C0 G k203 rfl hiX0 tyX0 tyX0_ok nmX0 8 (by decide) mf_X0_46 rfl rfl rfl rfl (Nat.le_of_ble_eq_true rfl) dX0_start_117 (fun H locs f204 hf204 G => ?_)
    have k205 : f204 i0 = some (.inr (2, [.ref i1, .ref i3, .ref i5, .ref i7, .ref i9, .ref i11, .int 0, .int 0, .int 1, .int v3, .int v4])) := hus hf204
    refine lv_aload_n hx hb dX0_start_120 rfl (lv_at hl 1 rfl) ?_
    refine lv_iconst (v := (-1)) hx hb dX0_start_121 (by decide) ?_
    refine g_put C0 G k205 rfl hiX0 tyX0 tyX0_ok nmX0 9 (by decide) mf_X0_49 rfl rfl rfl rfl (Nat.le_of_ble_eq_true rfl) dX0_start_122 (fun H locs f206 hf206 G => ?_)
    have k207 : f206 i0 = some (.inr (2, [.ref i1, .ref i3, .ref i5, .ref i7, .ref i9, .ref i11, .int 0, .int 0, .int 1, .int (-1), .int v4])) := hus hf206
    refine lv_aload_n hx hb dX0_start_125 rfl (lv_at hl 1 rfl) ?_
    refine lv_iconst (v := 0) hx hb dX0_start_126 (by decide) ?_
    refine g_put C0 G k207 rfl hiX0 tyX0 tyX0_ok nmX0 10 (by decide) mf_X0_52 rfl rfl rfl rfl (Nat.le_of_ble_eq_true rfl) dX0_start_127 (fun H locs f208 hf208 G => ?_)
    have k209 : f208 i0 = some (.inr (2, [.ref i1, .ref i3, .ref i5, .ref i7, .ref i9, .ref i11, .int 0, .int 0, .int 1, .int (-1), .int 0])) := hus hf208
    refine lv_aload_n hx hb dX0_start_130 rfl (lv_at hl 1 rfl) ?_
    have k210 : f208 i7 = some (.inr (8, [.int 8, .ref i8, .int 0])) := hup hf208 (by omega) (hup hf206 (by omega) (hup hf204 (by omega) (hup hf202 (by omega) (hup hf200 (by omega) (hup hp193 (by omega) (hup hp188 (by omega) (hup hp180 (by omega) (hup hp175 (by omega) (hup hp167 (by omega) (hup hp162 (by omega) (hup hp154 (by omega) (hup hp149 (by omega) (hup hp141 (by omega) (hup hp136 (by omega) (hup hp128 (by omega) (hup hp123 (by omega) (hup hp115 (by omega) (hup hp110 (by omega) (hup hp102 (by omega) (hup hp97 (by omega) (hup hp89 (by omega) (hup hp84 (by omega) (hup hp76 (by omega) (hup hp71 (by omega) (hup hp63 (by omega) (hup hp58 (by omega) (hup hp50 (by omega) (hup e44 (by omega) (hup hf43 (by omega) (hup e34 (by omega) k35))))))))))))))))))))))))))))))
    have k211 : f208 i8 = some (.inl (cy 0, 4104, .inl (zf g3 0 (0 * 8)))) := hup hf208 (by omega) (hup hf206 (by omega) (hup hf204 (by omega) (hup hf202 (by omega) (hup hf200 (by omega) (hup hp193 (by omega) (hup hp188 (by omega) (hup hp180 (by omega) (hup hp175 (by omega) (hup hp167 (by omega) (hup hp162 (by omega) (hup hp154 (by omega) (hup hp149 (by omega) (hup hp141 (by omega) (hup hp136 (by omega) (hup hp128 (by omega) (hup hp123 (by omega) (hup hp115 (by omega) (hup hp110 (by omega) (hup hp102 (by omega) (hup hp97 (by omega) (hup hp89 (by omega) (hup hp84 (by omega) (hup hp76 (by omega) (hup hp71 (by omega) (hup hp63 (by omega) (hup hp58 (by omega) (hup hp50 (by omega) (hup e44 (by omega) (hup hf43 (by omega) k37)))))))))))))))))))))))))))))
    refine g_cV C0 G (g_runV C0 G (rest := []) (k_X0_beginPartnershipF hfl  oI k209 k210 k211) k209 rfl hY_X0_beginPartnership mm_X0_71 mi_X0_beginPartnership ml_X0_beginPartnership ⟨(Nat.le_of_ble_eq_true rfl), (Nat.le_of_ble_eq_true rfl)⟩ rfl hl.1 rfl (Nat.le_of_ble_eq_true rfl) dX0_start_131 ⟨(Nat.le_of_ble_eq_true rfl), (Nat.le_of_ble_eq_true rfl)⟩) (kx_no rfl) (fun u213 H locs hp212 G => ?_)
    exact g_vret C0 G hr dX0_start_134 (Nat.le_of_ble_eq_true rfl) (Nat.le_of_ble_eq_true rfl) (by exact fun a9 e9 h7 h8 => hp212 _ _ (fun q => h7 (by simp only [List.mem_cons, List.not_mem_nil, or_false] at q ⊢; omega)) (hup hf208 (fun q => h7 (by rw [q]; simp)) (hup hf206 (fun q => h7 (by rw [q]; simp)) (hup hf204 (fun q => h7 (by rw [q]; simp)) (hup hf202 (fun q => h7 (by rw [q]; simp)) (hup hf200 (fun q => h7 (by rw [q]; simp)) (hup hp193 (fun q => h7 (by rw [q]; simp)) (hup hp188 (fun q => h7 (by rw [q]; simp)) (hup hp180 (fun q => h7 (by rw [q]; simp)) (hup hp175 (fun q => h7 (by rw [q]; simp)) (hup hp167 (fun q => h7 (by rw [q]; simp)) (hup hp162 (fun q => h7 (by rw [q]; simp)) (hup hp154 (fun q => h7 (by rw [q]; simp)) (hup hp149 (fun q => h7 (by rw [q]; simp)) (hup hp141 (fun q => h7 (by rw [q]; simp)) (hup hp136 (fun q => h7 (by rw [q]; simp)) (hup hp128 (fun q => h7 (by rw [q]; simp)) (hup hp123 (fun q => h7 (by rw [q]; simp)) (hup hp115 (fun q => h7 (by rw [q]; simp)) (hup hp110 (fun q => h7 (by rw [q]; simp)) (hup hp102 (fun q => h7 (by rw [q]; simp)) (hup hp97 (fun q => h7 (by rw [q]; simp)) (hup hp89 (fun q => h7 (by rw [q]; simp)) (hup hp84 (fun q => h7 (by rw [q]; simp)) (hup hp76 (fun q => h7 (by rw [q]; simp)) (hup hp71 (fun q => h7 (by rw [q]; simp)) (hup hp63 (fun q => h7 (by rw [q]; simp)) (hup hp58 (fun q => h7 (by rw [q]; simp)) (hup hp50 (fun q => h7 (by rw [q]; simp)) (hup e44 (fun q => h7 (by rw [q]; simp)) (hup hf43 (fun q => h7 (by rw [q]; simp)) (hup e34 (fun q => h7 (by rw [q]; simp)) (hup hf33 (fun q => h7 (by rw [q]; simp)) (hup e24 (fun q => h7 (by rw [q]; simp)) (hup hf23 (fun q => h7 (by rw [q]; simp)) (hup e14 (fun q => h7 (by rw [q]; simp)) (hup hf13 (fun q => h7 (by rw [q]; simp)) (hup e4 (fun q => h7 (by rw [q]; simp)) (hup hf3 (fun q => h7 (by rw [q]; simp)) (h8))))))))))))))))))))))))))))))))))))))))
  · refine lv_aload_n hx hb dX0_start_99 rfl (lv_at hl 1 rfl) ?_
    have k214 : u194 i0 = some (.inr (2, [.ref i1, .ref i3, .ref i5, .ref i7, .ref i9, .ref i11, .int v0, .int v1, .int v2, .int v3, .int v4])) := hup hp193 (by omega) k191
    have k215 : u194 i1 = some (.inr (8, [.int 8, .ref i2, .int 1])) := hup hp193 (by omega) (hup hp188 (by omega) (hup hp180 (by omega) (hup hp175 (by omega) (hup hp167 (by omega) (hup hp162 (by omega) (hup hp154 (by omega) (hup hp149 (by omega) (hup hp141 (by omega) (hup hp136 (by omega) (hup hp128 (by omega) (hup hp123 (by omega) (hup hp115 (by omega) (hup hp110 (by omega) (hup hp102 (by omega) (hup hp97 (by omega) (hup hp89 (by omega) (hup hp84 (by omega) (hup hp76 (by omega) (hup hp71 (by omega) (hup hp63 (by omega) (hup hp58 (by omega) (hup hp50 (by omega) (hup e44 (by omega) (hup hf43 (by omega) (hup e34 (by omega) (hup hf33 (by omega) (hup e24 (by omega) (hup hf23 (by omega) (hup e14 (by omega) (hup hf13 (by omega) (hup e4 (by omega) k5)))))))))))))))))))))))))))))))
    have k216 : u194 i2 = some (.inl (cy 0, 8, .inl (zf g0 0 (1 * 8)))) := hup hp193 (by omega) (hup hp188 (by omega) (hup hp180 (by omega) (hup hp175 (by omega) (hup hp167 (by omega) (hup hp162 (by omega) (hup hp154 (by omega) (hup hp149 (by omega) (hup hp141 (by omega) (hup hp136 (by omega) (hup hp128 (by omega) (hup hp123 (by omega) (hup hp115 (by omega) (hup hp110 (by omega) (hup hp102 (by omega) (hup hp97 (by omega) (hup hp89 (by omega) (hup hp84 (by omega) (hup hp76 (by omega) (hup hp71 (by omega) (hup hp63 (by omega) (hup hp58 (by omega) (hup hp50 (by omega) (hup e44 (by omega) (hup hf43 (by omega) (hup e34 (by omega) (hup hf33 (by omega) (hup e24 (by omega) (hup hf23 (by omega) (hup e14 (by omega) (hup hf13 (by omega) k7))))))))))))))))))))))))))))))
    have k217 : u194 i11 = some (.inr (5, [.ref i12, .int lim, .int lim, .int 0, .int (-1), .int (-1), .int 0, .int 0, .int 0])) := hup hp193 (by omega) (hup hp188 (by omega) (hup hp180 (by omega) (hup hp175 (by omega) (hup hp167 (by omega) (hup hp162 (by omega) (hup hp154 (by omega) (hup hp149 (by omega) (hup hp141 (by omega) (hup hp136 (by omega) (hup hp128 (by omega) (hup hp123 (by omega) (hup hp115 (by omega) (hup hp110 (by omega) (hup hp102 (by omega) (hup hp97 (by omega) (hup hp89 (by omega) (hup hp84 (by omega) (hup hp76 (by omega) (hup hp71 (by omega) (hup hp63 (by omega) (hup hp58 (by omega) k52)))))))))))))))))))))
    refine g_cI C0 G (g_runV C0 G (rest := [.ref i0]) (k_X0_value hfl  oI k214 k215 k216 k217) k214 rfl hY_X0_value mm_X0_67 mi_X0_value ml_X0_value ⟨(Nat.le_of_ble_eq_true rfl), (Nat.le_of_ble_eq_true rfl)⟩ rfl hl.1 rfl (Nat.le_of_ble_eq_true rfl) dX0_start_100 ⟨(Nat.le_of_ble_eq_true rfl), (Nat.le_of_ble_eq_true rfl)⟩) (kx_no rfl) (fun r220 u219 H locs hp218 G => ?_)
    obtain ⟨rfl, eu219⟩ := hp218
    rw [eu219] at G
    refine lv_goto (tgt := 107) hx hb dX0_start_103 (by decide) ?_
    refine g_put C0 G k214 rfl hiX0 tyX0 tyX0_ok nmX0 6 (by decide) mf_X0_39 rfl rfl rfl rfl (Nat.le_of_ble_eq_true rfl) dX0_start_107 (fun H locs f221 hf221 G => ?_)
    have k222 : f221 i0 = some (.inr (2, [.ref i1, .ref i3, .ref i5, .ref i7, .ref i9, .ref i11, .int ((10 - tget 8 1 8 (zf g0 0 (1 * 8)) 0 1) * (240 * (6 * lim - tget 8 1 8 (zf g0 0 (1 * 8)) 0 2) - (6 * lim - tget 8 1 8 (zf g0 0 (1 * 8)) 0 2) * (6 * lim - tget 8 1 8 (zf g0 0 (1 * 8)) 0 2))), .int v1, .int v2, .int v3, .int v4])) := hus hf221
    refine lv_aload_n hx hb dX0_start_110 rfl (lv_at hl 1 rfl) ?_
    refine lv_iconst (v := 0) hx hb dX0_start_111 (by decide) ?_
    refine g_put C0 G k222 rfl hiX0 tyX0 tyX0_ok nmX0 7 (by decide) mf_X0_43 rfl rfl rfl rfl (Nat.le_of_ble_eq_true rfl) dX0_start_112 (fun H locs f223 hf223 G => ?_)
    have k224 : f223 i0 = some (.inr (2, [.ref i1, .ref i3, .ref i5, .ref i7, .ref i9, .ref i11, .int ((10 - tget 8 1 8 (zf g0 0 (1 * 8)) 0 1) * (240 * (6 * lim - tget 8 1 8 (zf g0 0 (1 * 8)) 0 2) - (6 * lim - tget 8 1 8 (zf g0 0 (1 * 8)) 0 2) * (6 * lim - tget 8 1 8 (zf g0 0 (1 * 8)) 0 2))), .int 0, .int v2, .int v3, .int v4])) := hus hf223
    refine lv_aload_n hx hb dX0_start_115 rfl (lv_at hl 1 rfl) ?_
    refine lv_iconst (v := 1) hx hb dX0_start_116 (by decide) ?_
    refine g_put C0 G k224 rfl hiX0 tyX0 tyX0_ok nmX0 8 (by decide) mf_X0_46 rfl rfl rfl rfl (Nat.le_of_ble_eq_true rfl) dX0_start_117 (fun H locs f225 hf225 G => ?_)
    have k226 : f225 i0 = some (.inr (2, [.ref i1, .ref i3, .ref i5, .ref i7, .ref i9, .ref i11, .int ((10 - tget 8 1 8 (zf g0 0 (1 * 8)) 0 1) * (240 * (6 * lim - tget 8 1 8 (zf g0 0 (1 * 8)) 0 2) - (6 * lim - tget 8 1 8 (zf g0 0 (1 * 8)) 0 2) * (6 * lim - tget 8 1 8 (zf g0 0 (1 * 8)) 0 2))), .int 0, .int 1, .int v3, .int v4])) := hus hf225
    refine lv_aload_n hx hb dX0_start_120 rfl (lv_at hl 1 rfl) ?_
    refine lv_iconst (v := (-1)) hx hb dX0_start_121 (by decide) ?_
    refine g_put C0 G k226 rfl hiX0 tyX0 tyX0_ok nmX0 9 (by decide) mf_X0_49 rfl rfl rfl rfl (Nat.le_of_ble_eq_true rfl) dX0_start_122 (fun H locs f227 hf227 G => ?_)
    have k228 : f227 i0 = some (.inr (2, [.ref i1, .ref i3, .ref i5, .ref i7, .ref i9, .ref i11, .int ((10 - tget 8 1 8 (zf g0 0 (1 * 8)) 0 1) * (240 * (6 * lim - tget 8 1 8 (zf g0 0 (1 * 8)) 0 2) - (6 * lim - tget 8 1 8 (zf g0 0 (1 * 8)) 0 2) * (6 * lim - tget 8 1 8 (zf g0 0 (1 * 8)) 0 2))), .int 0, .int 1, .int (-1), .int v4])) := hus hf227
    refine lv_aload_n hx hb dX0_start_125 rfl (lv_at hl 1 rfl) ?_
    refine lv_iconst (v := 0) hx hb dX0_start_126 (by decide) ?_
    refine g_put C0 G k228 rfl hiX0 tyX0 tyX0_ok nmX0 10 (by decide) mf_X0_52 rfl rfl rfl rfl (Nat.le_of_ble_eq_true rfl) dX0_start_127 (fun H locs f229 hf229 G => ?_)
    have k230 : f229 i0 = some (.inr (2, [.ref i1, .ref i3, .ref i5, .ref i7, .ref i9, .ref i11, .int ((10 - tget 8 1 8 (zf g0 0 (1 * 8)) 0 1) * (240 * (6 * lim - tget 8 1 8 (zf g0 0 (1 * 8)) 0 2) - (6 * lim - tget 8 1 8 (zf g0 0 (1 * 8)) 0 2) * (6 * lim - tget 8 1 8 (zf g0 0 (1 * 8)) 0 2))), .int 0, .int 1, .int (-1), .int 0])) := hus hf229
    refine lv_aload_n hx hb dX0_start_130 rfl (lv_at hl 1 rfl) ?_
    have k231 : f229 i7 = some (.inr (8, [.int 8, .ref i8, .int 0])) := hup hf229 (by omega) (hup hf227 (by omega) (hup hf225 (by omega) (hup hf223 (by omega) (hup hf221 (by omega) (hup hp193 (by omega) (hup hp188 (by omega) (hup hp180 (by omega) (hup hp175 (by omega) (hup hp167 (by omega) (hup hp162 (by omega) (hup hp154 (by omega) (hup hp149 (by omega) (hup hp141 (by omega) (hup hp136 (by omega) (hup hp128 (by omega) (hup hp123 (by omega) (hup hp115 (by omega) (hup hp110 (by omega) (hup hp102 (by omega) (hup hp97 (by omega) (hup hp89 (by omega) (hup hp84 (by omega) (hup hp76 (by omega) (hup hp71 (by omega) (hup hp63 (by omega) (hup hp58 (by omega) (hup hp50 (by omega) (hup e44 (by omega) (hup hf43 (by omega) (hup e34 (by omega) k35))))))))))))))))))))))))))))))
    have k232 : f229 i8 = some (.inl (cy 0, 4104, .inl (zf g3 0 (0 * 8)))) := hup hf229 (by omega) (hup hf227 (by omega) (hup hf225 (by omega) (hup hf223 (by omega) (hup hf221 (by omega) (hup hp193 (by omega) (hup hp188 (by omega) (hup hp180 (by omega) (hup hp175 (by omega) (hup hp167 (by omega) (hup hp162 (by omega) (hup hp154 (by omega) (hup hp149 (by omega) (hup hp141 (by omega) (hup hp136 (by omega) (hup hp128 (by omega) (hup hp123 (by omega) (hup hp115 (by omega) (hup hp110 (by omega) (hup hp102 (by omega) (hup hp97 (by omega) (hup hp89 (by omega) (hup hp84 (by omega) (hup hp76 (by omega) (hup hp71 (by omega) (hup hp63 (by omega) (hup hp58 (by omega) (hup hp50 (by omega) (hup e44 (by omega) (hup hf43 (by omega) k37)))))))))))))))))))))))))))))
    refine g_cV C0 G (g_runV C0 G (rest := []) (k_X0_beginPartnershipF hfl  oI k230 k231 k232) k230 rfl hY_X0_beginPartnership mm_X0_71 mi_X0_beginPartnership ml_X0_beginPartnership ⟨(Nat.le_of_ble_eq_true rfl), (Nat.le_of_ble_eq_true rfl)⟩ rfl hl.1 rfl (Nat.le_of_ble_eq_true rfl) dX0_start_131 ⟨(Nat.le_of_ble_eq_true rfl), (Nat.le_of_ble_eq_true rfl)⟩) (kx_no rfl) (fun u234 H locs hp233 G => ?_)
    exact g_vret C0 G hr dX0_start_134 (Nat.le_of_ble_eq_true rfl) (Nat.le_of_ble_eq_true rfl) (by exact fun a9 e9 h7 h8 => hp233 _ _ (fun q => h7 (by simp only [List.mem_cons, List.not_mem_nil, or_false] at q ⊢; omega)) (hup hf229 (fun q => h7 (by rw [q]; simp)) (hup hf227 (fun q => h7 (by rw [q]; simp)) (hup hf225 (fun q => h7 (by rw [q]; simp)) (hup hf223 (fun q => h7 (by rw [q]; simp)) (hup hf221 (fun q => h7 (by rw [q]; simp)) (hup hp193 (fun q => h7 (by rw [q]; simp)) (hup hp188 (fun q => h7 (by rw [q]; simp)) (hup hp180 (fun q => h7 (by rw [q]; simp)) (hup hp175 (fun q => h7 (by rw [q]; simp)) (hup hp167 (fun q => h7 (by rw [q]; simp)) (hup hp162 (fun q => h7 (by rw [q]; simp)) (hup hp154 (fun q => h7 (by rw [q]; simp)) (hup hp149 (fun q => h7 (by rw [q]; simp)) (hup hp141 (fun q => h7 (by rw [q]; simp)) (hup hp136 (fun q => h7 (by rw [q]; simp)) (hup hp128 (fun q => h7 (by rw [q]; simp)) (hup hp123 (fun q => h7 (by rw [q]; simp)) (hup hp115 (fun q => h7 (by rw [q]; simp)) (hup hp110 (fun q => h7 (by rw [q]; simp)) (hup hp102 (fun q => h7 (by rw [q]; simp)) (hup hp97 (fun q => h7 (by rw [q]; simp)) (hup hp89 (fun q => h7 (by rw [q]; simp)) (hup hp84 (fun q => h7 (by rw [q]; simp)) (hup hp76 (fun q => h7 (by rw [q]; simp)) (hup hp71 (fun q => h7 (by rw [q]; simp)) (hup hp63 (fun q => h7 (by rw [q]; simp)) (hup hp58 (fun q => h7 (by rw [q]; simp)) (hup hp50 (fun q => h7 (by rw [q]; simp)) (hup e44 (fun q => h7 (by rw [q]; simp)) (hup hf43 (fun q => h7 (by rw [q]; simp)) (hup e34 (fun q => h7 (by rw [q]; simp)) (hup hf33 (fun q => h7 (by rw [q]; simp)) (hup e24 (fun q => h7 (by rw [q]; simp)) (hup hf23 (fun q => h7 (by rw [q]; simp)) (hup e14 (fun q => h7 (by rw [q]; simp)) (hup hf13 (fun q => h7 (by rw [q]; simp)) (hup e4 (fun q => h7 (by rw [q]; simp)) (hup hf3 (fun q => h7 (by rw [q]; simp)) (h8))))))))))))))))))))))))))))))))))))))))
