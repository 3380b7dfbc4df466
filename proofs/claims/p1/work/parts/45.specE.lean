set_option maxRecDepth 100000 in
theorem k_X2_follow0 {l : Launch} (hfl : l.stackTraces = false) {D : va_G} {cy : Nat → ClassId} {f : Hf} {sz : Nat} {mt al lg n9 st9 en9 : Nat} {ex ovr each first number ov ie fi co un : Int32} {ga : Nat → Option Nat} {i0 i1 i2 i3 i4 i5 i6 i7 i8 i9 i10 i11 i12 : Nat} {v0 v1 v2 v3 v4 v5 v6 v7 v8 v9 v10 v11 v12 v13 v14 v15 v16 v17 : Int32} {g0 g1 g2 g3 g4 g5 : Nat → Int32} (h_m : f mt = some (.inr (4, [.ref al, .int ex, .int ovr, .int each, .int first, .int number]))) (h_al : f al = some (.inl (cy 3, 4, .inr (.inr (.inr (.inr ga)))))) (h_lg : f lg = some (.inr (3, [.ref n9, .ref st9, .ref en9, .int ov, .int ie, .int fi, .int 0, .int co, .int un]))) (h_i0 : f i0 = some (.inr (2, [.ref i1, .ref i3, .ref i5, .ref i7, .ref i9, .ref i11, .int v0, .int v1, .int v2, .int v3, .int v4]))) (h_i1 : f i1 = some (.inr (8, [.int 8, .ref i2, .int v5]))) (h_i2 : f i2 = some (.inl (cy 0, 8, .inl g0))) (h_i3 : f i3 = some (.inr (8, [.int 6, .ref i4, .int v6]))) (h_i4 : f i4 = some (.inl (cy 0, 66, .inl g1))) (h_i5 : f i5 = some (.inr (8, [.int 7, .ref i6, .int v7]))) (h_i6 : f i6 = some (.inl (cy 0, 77, .inl g2))) (h_i7 : f i7 = some (.inr (8, [.int 8, .ref i8, .int v8]))) (h_i8 : f i8 = some (.inl (cy 0, 4104, .inl g3))) (h_i9 : f i9 = some (.inr (8, [.int 3, .ref i10, .int v9]))) (h_i10 : f i10 = some (.inl (cy 0, 33, .inl g4))) (h_i11 : f i11 = some (.inr (5, [.ref i12, .int v10, .int v11, .int v12, .int v13, .int v14, .int v15, .int v16, .int v17]))) (h_i12 : f i12 = some (.inl (cy 0, 20, .inl g5))) (hg0 : ga 0 = some i0) (hie : 0 < ie) (oI : i0 < i1 ∧ i1 < i2 ∧ i2 < i3 ∧ i3 < i4 ∧ i4 < i5 ∧ i5 < i6 ∧ i6 < i7 ∧ i7 < i8 ∧ i8 < i9 ∧ i9 < i10 ∧ i10 < i11 ∧ i11 < i12) (oA : mt < al ∧ al < i0 ∧ i12 < lg) : hMet l yX2_follow cX2_follow 3 none { frames := 3, cells := 0, slots := 0, locals := 69 } D (hTy cy) f sz [.ref mt, .ref lg] (hQv (fun u => hFrL f u [mt, i0, i1, i2, i3, i4, i5, i6, i7, i8, i9, i10, i11, i12]) D f sz) hNo := by
  refine h_enter (by decide) hfl (Nat.le_of_ble_eq_true rfl) ?_
  intro p9 e9 s9 m9 b9 t9 c9 hsz C0 hr hnm G ls hl
  have hx := C0.1.1
  have hb := C0.1.2.1
  have hl : lv_has ls 3 [(0, .ref mt), (1, .ref lg)] := hl
  obtain ⟨oI0, oI1, oI2, oI3, oI4, oI5, oI6, oI7, oI8, oI9, oI10, oI11⟩ := id oI
  obtain ⟨oA0, oA1, oA2⟩ := id oA
  refine lv_aload_n hx hb dX2_follow_0 rfl (lv_at hl 0 rfl) ?_
  refine lv_aload_n hx hb dX2_follow_1 rfl (lv_at hl 1 rfl) ?_
  refine g_cI C0 G (g_runV C0 G (rest := [.ref mt]) (k_X1_hasMatch hfl h_lg) h_lg rfl hY_X1_hasMatch mm_X2_35 mi_X1_hasMatch ml_X1_hasMatch ⟨(Nat.le_of_ble_eq_true rfl), (Nat.le_of_ble_eq_true rfl)⟩ rfl hl.1 rfl (Nat.le_of_ble_eq_true rfl) dX2_follow_2 ⟨(Nat.le_of_ble_eq_true rfl), (Nat.le_of_ble_eq_true rfl)⟩) (kx_no rfl) (fun r3 u2 H locs hp1 G => ?_)
  obtain ⟨b4, eu2⟩ := hp1
  rw [eu2] at G
  rcases b4 with ⟨rfl, c5⟩ | ⟨rfl, c5⟩
  · refine g_put C0 G h_m rfl hiX2 tyX2 tyX2_ok nmX2 1 (by decide) mf_X2_17 rfl rfl rfl rfl (Nat.le_of_ble_eq_true rfl) dX2_follow_5 (fun H locs f6 hf6 G => ?_)
    have k7 : f6 mt = some (.inr (4, [.ref al, .int 1, .int ovr, .int each, .int first, .int number])) := hus hf6
    refine lv_aload_n hx hb dX2_follow_8 rfl (lv_at hl 0 rfl) ?_
    refine g_get C0 G k7 rfl hiX2 1 (by decide) mf_X2_17 rfl dX2_follow_9 ?_
    refine lv_if_ne (tgt := 16) hx hb dX2_follow_12 (by decide) (fun _ => ?_) (fun c8 => absurd c8 (by decide))
    refine lv_aload_n hx hb dX2_follow_16 rfl (lv_at hl 0 rfl) ?_
    refine lv_iconst (v := 0) hx hb dX2_follow_17 (by decide) ?_
    refine g_put C0 G k7 rfl hiX2 tyX2 tyX2_ok nmX2 2 (by decide) mf_X2_21 rfl rfl rfl rfl (Nat.le_of_ble_eq_true rfl) dX2_follow_18 (fun H locs f9 hf9 G => ?_)
    have k10 : f9 mt = some (.inr (4, [.ref al, .int 1, .int 0, .int each, .int first, .int number])) := hus hf9
    refine lv_aload_n hx hb dX2_follow_21 rfl (lv_at hl 0 rfl) ?_
    refine lv_aload_n hx hb dX2_follow_22 rfl (lv_at hl 1 rfl) ?_
    have k11 : f9 lg = some (.inr (3, [.ref n9, .ref st9, .ref en9, .int ov, .int ie, .int fi, .int 0, .int co, .int un])) := hup hf9 (by omega) (hup hf6 (by omega) h_lg)
    refine g_get C0 G k11 rfl hiX1 4 (by decide) mf_X2_41 rfl dX2_follow_23 ?_
    refine g_put C0 G k10 rfl hiX2 tyX2 tyX2_ok nmX2 3 (by decide) mf_X2_24 rfl rfl rfl rfl (Nat.le_of_ble_eq_true rfl) dX2_follow_26 (fun H locs f12 hf12 G => ?_)
    have k13 : f12 mt = some (.inr (4, [.ref al, .int 1, .int 0, .int ie, .int first, .int number])) := hus hf12
    refine lv_aload_n hx hb dX2_follow_29 rfl (lv_at hl 0 rfl) ?_
    refine lv_aload_n hx hb dX2_follow_30 rfl (lv_at hl 1 rfl) ?_
    have k14 : f12 lg = some (.inr (3, [.ref n9, .ref st9, .ref en9, .int ov, .int ie, .int fi, .int 0, .int co, .int un])) := hup hf12 (by omega) k11
    refine g_get C0 G k14 rfl hiX1 5 (by decide) mf_X2_42 rfl dX2_follow_31 ?_
    refine g_put C0 G k13 rfl hiX2 tyX2 tyX2_ok nmX2 4 (by decide) mf_X2_28 rfl rfl rfl rfl (Nat.le_of_ble_eq_true rfl) dX2_follow_34 (fun H locs f15 hf15 G => ?_)
    have k16 : f15 mt = some (.inr (4, [.ref al, .int 1, .int 0, .int ie, .int fi, .int number])) := hus hf15
    refine lv_aload_n hx hb dX2_follow_37 rfl (lv_at hl 0 rfl) ?_
    refine lv_iconst (v := 0) hx hb dX2_follow_38 (by decide) ?_
    refine g_put C0 G k16 rfl hiX2 tyX2 tyX2_ok nmX2 5 (by decide) mf_X2_31 rfl rfl rfl rfl (Nat.le_of_ble_eq_true rfl) dX2_follow_39 (fun H locs f17 hf17 G => ?_)
    have k18 : f17 mt = some (.inr (4, [.ref al, .int 1, .int 0, .int ie, .int fi, .int 0])) := hus hf17
    refine lv_aload_n hx hb dX2_follow_42 rfl (lv_at hl 0 rfl) ?_
    have k19 : f17 al = some (.inl (cy 3, 4, .inr (.inr (.inr (.inr ga))))) := hup hf17 (by omega) (hup hf15 (by omega) (hup hf12 (by omega) (hup hf9 (by omega) (hup hf6 (by omega) h_al))))
    refine g_cR C0 G (g_runV C0 G (rest := []) (k_X2_present0 hfl k18 k19 hg0) k18 rfl hY_X2_present mm_X2_43 mi_X2_present ml_X2_present ⟨(Nat.le_of_ble_eq_true rfl), (Nat.le_of_ble_eq_true rfl)⟩ rfl hl.1 rfl (Nat.le_of_ble_eq_true rfl) dX2_follow_43 ⟨(Nat.le_of_ble_eq_true rfl), (Nat.le_of_ble_eq_true rfl)⟩) (kx_no rfl) (fun a22 u21 H locs hp20 G => ?_)
    obtain ⟨qa22, eu21⟩ := hp20
    rw [qa22]
    rw [eu21] at G
    refine lv_aload_n hx hb dX2_follow_46 rfl (lv_at hl 1 rfl) ?_
    have k23 : f17 lg = some (.inr (3, [.ref n9, .ref st9, .ref en9, .int ov, .int ie, .int fi, .int 0, .int co, .int un])) := hup hf17 (by omega) (hup hf15 (by omega) k14)
    refine g_get C0 G k23 rfl hiX1 3 (by decide) mf_X2_47 rfl dX2_follow_47 ?_
    refine lv_aload_n hx hb dX2_follow_50 rfl (lv_at hl 0 rfl) ?_
    refine g_cI C0 G (g_runV C0 G (rest := [.int ov, .ref i0]) (k_X2_hasResources hfl k18) k18 rfl hY_X2_hasResources mm_X2_50 mi_X2_hasResources ml_X2_hasResources ⟨(Nat.le_of_ble_eq_true rfl), (Nat.le_of_ble_eq_true rfl)⟩ rfl hl.1 rfl (Nat.le_of_ble_eq_true rfl) dX2_follow_51 ⟨(Nat.le_of_ble_eq_true rfl), (Nat.le_of_ble_eq_true rfl)⟩) (kx_no rfl) (fun r26 u25 H locs hp24 G => ?_)
    obtain ⟨b27, eu25⟩ := hp24
    rw [eu25] at G
    rcases b27 with ⟨rfl, c28⟩ | ⟨rfl, c28⟩
    · have k29 : f17 i0 = some (.inr (2, [.ref i1, .ref i3, .ref i5, .ref i7, .ref i9, .ref i11, .int v0, .int v1, .int v2, .int v3, .int v4])) := hup hf17 (by omega) (hup hf15 (by omega) (hup hf12 (by omega) (hup hf9 (by omega) (hup hf6 (by omega) h_i0))))
      have k30 : f17 i1 = some (.inr (8, [.int 8, .ref i2, .int v5])) := hup hf17 (by omega) (hup hf15 (by omega) (hup hf12 (by omega) (hup hf9 (by omega) (hup hf6 (by omega) h_i1))))
      have k31 : f17 i2 = some (.inl (cy 0, 8, .inl g0)) := hup hf17 (by omega) (hup hf15 (by omega) (hup hf12 (by omega) (hup hf9 (by omega) (hup hf6 (by omega) h_i2))))
      have k32 : f17 i3 = some (.inr (8, [.int 6, .ref i4, .int v6])) := hup hf17 (by omega) (hup hf15 (by omega) (hup hf12 (by omega) (hup hf9 (by omega) (hup hf6 (by omega) h_i3))))
      have k33 : f17 i4 = some (.inl (cy 0, 66, .inl g1)) := hup hf17 (by omega) (hup hf15 (by omega) (hup hf12 (by omega) (hup hf9 (by omega) (hup hf6 (by omega) h_i4))))
      have k34 : f17 i5 = some (.inr (8, [.int 7, .ref i6, .int v7])) := hup hf17 (by omega) (hup hf15 (by omega) (hup hf12 (by omega) (hup hf9 (by omega) (hup hf6 (by omega) h_i5))))
      have k35 : f17 i6 = some (.inl (cy 0, 77, .inl g2)) := hup hf17 (by omega) (hup hf15 (by omega) (hup hf12 (by omega) (hup hf9 (by omega) (hup hf6 (by omega) h_i6))))
      have k36 : f17 i7 = some (.inr (8, [.int 8, .ref i8, .int v8])) := hup hf17 (by omega) (hup hf15 (by omega) (hup hf12 (by omega) (hup hf9 (by omega) (hup hf6 (by omega) h_i7))))
      have k37 : f17 i8 = some (.inl (cy 0, 4104, .inl g3)) := hup hf17 (by omega) (hup hf15 (by omega) (hup hf12 (by omega) (hup hf9 (by omega) (hup hf6 (by omega) h_i8))))
      have k38 : f17 i9 = some (.inr (8, [.int 3, .ref i10, .int v9])) := hup hf17 (by omega) (hup hf15 (by omega) (hup hf12 (by omega) (hup hf9 (by omega) (hup hf6 (by omega) h_i9))))
      have k39 : f17 i10 = some (.inl (cy 0, 33, .inl g4)) := hup hf17 (by omega) (hup hf15 (by omega) (hup hf12 (by omega) (hup hf9 (by omega) (hup hf6 (by omega) h_i10))))
      have k40 : f17 i11 = some (.inr (5, [.ref i12, .int v10, .int v11, .int v12, .int v13, .int v14, .int v15, .int v16, .int v17])) := hup hf17 (by omega) (hup hf15 (by omega) (hup hf12 (by omega) (hup hf9 (by omega) (hup hf6 (by omega) h_i11))))
      have k41 : f17 i12 = some (.inl (cy 0, 20, .inl g5)) := hup hf17 (by omega) (hup hf15 (by omega) (hup hf12 (by omega) (hup hf9 (by omega) (hup hf6 (by omega) h_i12))))
      refine g_cV C0 G (g_runV C0 G (rest := []) (k_X0_startF hfl ov 1 oI k29 k30 k31 k32 k33 k34 k35 k36 k37 k38 k39 k40 k41) k29 rfl hY_X0_start mm_X2_53 mi_X0_start ml_X0_start ⟨(Nat.le_of_ble_eq_true rfl), (Nat.le_of_ble_eq_true rfl)⟩ rfl hl.1 rfl (Nat.le_of_ble_eq_true rfl) dX2_follow_54 ⟨(Nat.le_of_ble_eq_true rfl), (Nat.le_of_ble_eq_true rfl)⟩) (kx_no rfl) (fun u43 H locs hp42 G => ?_)
      refine lv_iconst (v := 0) hx hb dX2_follow_57 (by decide) ?_
      refine lv_istore_n (lv' := [(2, .int 0), (0, .ref mt), (1, .ref lg)]) hx hb dX2_follow_58 rfl hl (by decide) rfl (fun ls hl => ?_)
      refine lv_iload_n hx hb dX2_follow_59 rfl (lv_at hl 0 rfl) ?_
      refine lv_aload_n hx hb dX2_follow_60 rfl (lv_at hl 2 rfl) ?_
      have k44 : u43 lg = some (.inr (3, [.ref n9, .ref st9, .ref en9, .int ov, .int ie, .int fi, .int 0, .int co, .int un])) := hp42 _ _ (by simp only [List.mem_cons, List.not_mem_nil, or_false]; intro q; rcases q with q | q | q | q | q | q | q | q | q | q | q | q | q <;> exact absurd q (by omega)) k23
      refine g_get C0 G k44 rfl hiX1 6 (by decide) mf_X2_57 rfl dX2_follow_61 ?_
      refine lv_icmp_ge (tgt := 83) hx hb dX2_follow_64 (by decide) (fun _ => ?_) (fun c45 => absurd (by decide) c45)
      exact g_vret C0 G hr dX2_follow_83 (Nat.le_of_ble_eq_true rfl) (Nat.le_of_ble_eq_true rfl) (by exact fun a9 e9 h7 h8 => hp42 _ _ (fun q => h7 (by simp only [List.mem_cons, List.not_mem_nil, or_false] at q ⊢; omega)) (hup hf17 (fun q => h7 (by rw [q]; simp)) (hup hf15 (fun q => h7 (by rw [q]; simp)) (hup hf12 (fun q => h7 (by rw [q]; simp)) (hup hf9 (fun q => h7 (by rw [q]; simp)) (hup hf6 (fun q => h7 (by rw [q]; simp)) (h8)))))))
    · have k46 : f17 i0 = some (.inr (2, [.ref i1, .ref i3, .ref i5, .ref i7, .ref i9, .ref i11, .int v0, .int v1, .int v2, .int v3, .int v4])) := hup hf17 (by omega) (hup hf15 (by omega) (hup hf12 (by omega) (hup hf9 (by omega) (hup hf6 (by omega) h_i0))))
      have k47 : f17 i1 = some (.inr (8, [.int 8, .ref i2, .int v5])) := hup hf17 (by omega) (hup hf15 (by omega) (hup hf12 (by omega) (hup hf9 (by omega) (hup hf6 (by omega) h_i1))))
      have k48 : f17 i2 = some (.inl (cy 0, 8, .inl g0)) := hup hf17 (by omega) (hup hf15 (by omega) (hup hf12 (by omega) (hup hf9 (by omega) (hup hf6 (by omega) h_i2))))
      have k49 : f17 i3 = some (.inr (8, [.int 6, .ref i4, .int v6])) := hup hf17 (by omega) (hup hf15 (by omega) (hup hf12 (by omega) (hup hf9 (by omega) (hup hf6 (by omega) h_i3))))
      have k50 : f17 i4 = some (.inl (cy 0, 66, .inl g1)) := hup hf17 (by omega) (hup hf15 (by omega) (hup hf12 (by omega) (hup hf9 (by omega) (hup hf6 (by omega) h_i4))))
      have k51 : f17 i5 = some (.inr (8, [.int 7, .ref i6, .int v7])) := hup hf17 (by omega) (hup hf15 (by omega) (hup hf12 (by omega) (hup hf9 (by omega) (hup hf6 (by omega) h_i5))))
      have k52 : f17 i6 = some (.inl (cy 0, 77, .inl g2)) := hup hf17 (by omega) (hup hf15 (by omega) (hup hf12 (by omega) (hup hf9 (by omega) (hup hf6 (by omega) h_i6))))
      have k53 : f17 i7 = some (.inr (8, [.int 8, .ref i8, .int v8])) := hup hf17 (by omega) (hup hf15 (by omega) (hup hf12 (by omega) (hup hf9 (by omega) (hup hf6 (by omega) h_i7))))
      have k54 : f17 i8 = some (.inl (cy 0, 4104, .inl g3)) := hup hf17 (by omega) (hup hf15 (by omega) (hup hf12 (by omega) (hup hf9 (by omega) (hup hf6 (by omega) h_i8))))
      have k55 : f17 i9 = some (.inr (8, [.int 3, .ref i10, .int v9])) := hup hf17 (by omega) (hup hf15 (by omega) (hup hf12 (by omega) (hup hf9 (by omega) (hup hf6 (by omega) h_i9))))
      have k56 : f17 i10 = some (.inl (cy 0, 33, .inl g4)) := hup hf17 (by omega) (hup hf15 (by omega) (hup hf12 (by omega) (hup hf9 (by omega) (hup hf6 (by omega) h_i10))))
      have k57 : f17 i11 = some (.inr (5, [.ref i12, .int v10, .int v11, .int v12, .int v13, .int v14, .int v15, .int v16, .int v17])) := hup hf17 (by omega) (hup hf15 (by omega) (hup hf12 (by omega) (hup hf9 (by omega) (hup hf6 (by omega) h_i11))))
      have k58 : f17 i12 = some (.inl (cy 0, 20, .inl g5)) := hup hf17 (by omega) (hup hf15 (by omega) (hup hf12 (by omega) (hup hf9 (by omega) (hup hf6 (by omega) h_i12))))
      refine g_cV C0 G (g_runV C0 G (rest := []) (k_X0_startF hfl ov 0 oI k46 k47 k48 k49 k50 k51 k52 k53 k54 k55 k56 k57 k58) k46 rfl hY_X0_start mm_X2_53 mi_X0_start ml_X0_start ⟨(Nat.le_of_ble_eq_true rfl), (Nat.le_of_ble_eq_true rfl)⟩ rfl hl.1 rfl (Nat.le_of_ble_eq_true rfl) dX2_follow_54 ⟨(Nat.le_of_ble_eq_true rfl), (Nat.le_of_ble_eq_true rfl)⟩) (kx_no rfl) (fun u60 H locs hp59 G => ?_)
      refine lv_iconst (v := 0) hx hb dX2_follow_57 (by decide) ?_
      refine lv_istore_n (lv' := [(2, .int 0), (0, .ref mt), (1, .ref lg)]) hx hb dX2_follow_58 rfl hl (by decide) rfl (fun ls hl => ?_)
      refine lv_iload_n hx hb dX2_follow_59 rfl (lv_at hl 0 rfl) ?_
      refine lv_aload_n hx hb dX2_follow_60 rfl (lv_at hl 2 rfl) ?_
      have k61 : u60 lg = some (.inr (3, [.ref n9, .ref st9, .ref en9, .int ov, .int ie, .int fi, .int 0, .int co, .int un])) := hp59 _ _ (by simp only [List.mem_cons, List.not_mem_nil, or_false]; intro q; rcases q with q | q | q | q | q | q | q | q | q | q | q | q | q <;> exact absurd q (by omega)) k23
      refine g_get C0 G k61 rfl hiX1 6 (by decide) mf_X2_57 rfl dX2_follow_61 ?_
      refine lv_icmp_ge (tgt := 83) hx hb dX2_follow_64 (by decide) (fun _ => ?_) (fun c62 => absurd (by decide) c62)
      exact g_vret C0 G hr dX2_follow_83 (Nat.le_of_ble_eq_true rfl) (Nat.le_of_ble_eq_true rfl) (by exact fun a9 e9 h7 h8 => hp59 _ _ (fun q => h7 (by simp only [List.mem_cons, List.not_mem_nil, or_false] at q ⊢; omega)) (hup hf17 (fun q => h7 (by rw [q]; simp)) (hup hf15 (fun q => h7 (by rw [q]; simp)) (hup hf12 (fun q => h7 (by rw [q]; simp)) (hup hf9 (fun q => h7 (by rw [q]; simp)) (hup hf6 (fun q => h7 (by rw [q]; simp)) (h8)))))))
  · exact absurd (hie) c5
set_option maxRecDepth 100000 in
theorem k_X8_begin {l : Launch} (hfl : l.stackTraces = false) {D : va_G} {cy : Nat → ClassId} {f : Hf} {sz : Nat} {sc m0 m1 lg sv tx r0 r1 : Nat} {ea ra kr : Int32} {al ln lst len : Nat} {ex ovr each first number e1 e2 e3 e4 e5 e6 : Int32} {ga : Nat → Option Nat} {i0 i1 i2 i3 i4 i5 i6 i7 i8 i9 i10 i11 i12 : Nat} {v0 v1 v2 v3 v4 v5 v6 v7 v8 v9 v10 v11 v12 v13 v14 v15 v16 v17 : Int32} {g0 g1 g2 g3 g4 g5 : Nat → Int32} (a1 a2 a3 : Int32) (h_sc : f sc = some (.inr (10, [.ref m0, .ref m1, .ref lg, .ref sv, .ref tx, .ref r0, .ref r1, .int ea, .int ra, .int kr]))) (h_m0 : f m0 = some (.inr (4, [.ref al, .int ex, .int ovr, .int each, .int first, .int number]))) (h_lg : f lg = some (.inr (3, [.ref ln, .ref lst, .ref len, .int e1, .int e2, .int e3, .int e4, .int e5, .int e6]))) (h_al : f al = some (.inl (cy 3, 4, .inr (.inr (.inr (.inr ga)))))) (h_i0 : f i0 = some (.inr (2, [.ref i1, .ref i3, .ref i5, .ref i7, .ref i9, .ref i11, .int v0, .int v1, .int v2, .int v3, .int v4]))) (h_i1 : f i1 = some (.inr (8, [.int 8, .ref i2, .int v5]))) (h_i2 : f i2 = some (.inl (cy 0, 8, .inl g0))) (h_i3 : f i3 = some (.inr (8, [.int 6, .ref i4, .int v6]))) (h_i4 : f i4 = some (.inl (cy 0, 66, .inl g1))) (h_i5 : f i5 = some (.inr (8, [.int 7, .ref i6, .int v7]))) (h_i6 : f i6 = some (.inl (cy 0, 77, .inl g2))) (h_i7 : f i7 = some (.inr (8, [.int 8, .ref i8, .int v8]))) (h_i8 : f i8 = some (.inl (cy 0, 4104, .inl g3))) (h_i9 : f i9 = some (.inr (8, [.int 3, .ref i10, .int v9]))) (h_i10 : f i10 = some (.inl (cy 0, 33, .inl g4))) (h_i11 : f i11 = some (.inr (5, [.ref i12, .int v10, .int v11, .int v12, .int v13, .int v14, .int v15, .int v16, .int v17]))) (h_i12 : f i12 = some (.inl (cy 0, 20, .inl g5))) (hg0 : ga 0 = some i0) (oI : i0 < i1 ∧ i1 < i2 ∧ i2 < i3 ∧ i3 < i4 ∧ i4 < i5 ∧ i5 < i6 ∧ i6 < i7 ∧ i7 < i8 ∧ i8 < i9 ∧ i9 < i10 ∧ i10 < i11 ∧ i11 < i12) (oB : sc < m0 ∧ m0 < al ∧ al < i0 ∧ i12 < lg) : hMet l yX8_begin cX8_begin 4 (some .int) { frames := 6, cells := 1, slots := 6, locals := 91 } D (hTy cy) f sz [.ref sc, .int a1, .int a2, .int a3] (hQi (fun r u => r = (a1 + 4) / 5 ∧ ((1 ≤ a1 ∧ a1 ≤ 20) ∧ (1 ≤ a2 ∧ a2 ≤ 2) ∧ (0 ≤ a3 ∧ a3 ≤ 1)) ∧ hFrL f u [lg, m0, i0, i1, i2, i3, i4, i5, i6, i7, i8, i9, i10, i11, i12]) D f sz) (fun E u => E = "java/lang/IllegalArgumentException" ∧ ¬ ((1 ≤ a1 ∧ a1 ≤ 20) ∧ (1 ≤ a2 ∧ a2 ≤ 2) ∧ (0 ≤ a3 ∧ a3 ≤ 1)) ∧ u = f) := by
  refine h_enter (by decide) hfl (Nat.le_of_ble_eq_true rfl) ?_
  intro p9 e9 s9 m9 b9 t9 c9 hsz C0 hr hnm G ls hl
  have hx := C0.1.1
  have hb := C0.1.2.1
  have hl : lv_has ls 4 [(0, .ref sc), (1, .int a1), (2, .int a2), (3, .int a3)] := hl
  obtain ⟨oI0, oI1, oI2, oI3, oI4, oI5, oI6, oI7, oI8, oI9, oI10, oI11⟩ := id oI
  obtain ⟨oB0, oB1, oB2, oB3⟩ := id oB
  refine lv_iload_n hx hb dX8_begin_0 rfl (lv_at hl 1 rfl) ?_
  refine lv_iconst (v := 1) hx hb dX8_begin_1 (by decide) ?_
  refine lv_bipush (v := 20) hx hb dX8_begin_2 (by decide) ?_
  refine g_cI C0 G (g_runS C0 G (rest := []) (k_X8_isWithin hfl a1 1 20) hY_X8_isWithin mm_X8_56 ms_X8_isWithin ⟨(Nat.le_of_ble_eq_true rfl), (Nat.le_of_ble_eq_true rfl)⟩ rfl hl.1 rfl (Nat.le_of_ble_eq_true rfl) dX8_begin_4 ⟨(Nat.le_of_ble_eq_true rfl), (Nat.le_of_ble_eq_true rfl)⟩) (kx_no rfl) (fun r3 u2 H locs hp1 G => ?_)
  obtain ⟨b4, eu2⟩ := hp1
  rw [eu2] at G
  rcases b4 with ⟨rfl, c5⟩ | ⟨rfl, c5⟩
  · refine lv_if_eq (tgt := 28) hx hb dX8_begin_7 (by decide) (fun c6 => absurd c6 (by decide)) (fun _ => ?_)
    refine lv_iload_n hx hb dX8_begin_10 rfl (lv_at hl 2 rfl) ?_
    refine lv_iconst (v := 1) hx hb dX8_begin_11 (by decide) ?_
    refine lv_iconst (v := 2) hx hb dX8_begin_12 (by decide) ?_
    refine g_cI C0 G (g_runS C0 G (rest := []) (k_X8_isWithin hfl a2 1 2) hY_X8_isWithin mm_X8_56 ms_X8_isWithin ⟨(Nat.le_of_ble_eq_true rfl), (Nat.le_of_ble_eq_true rfl)⟩ rfl hl.1 rfl (Nat.le_of_ble_eq_true rfl) dX8_begin_13 ⟨(Nat.le_of_ble_eq_true rfl), (Nat.le_of_ble_eq_true rfl)⟩) (kx_no rfl) (fun r9 u8 H locs hp7 G => ?_)
    obtain ⟨b10, eu8⟩ := hp7
    rw [eu8] at G
    rcases b10 with ⟨rfl, c11⟩ | ⟨rfl, c11⟩
    · refine lv_if_eq (tgt := 28) hx hb dX8_begin_16 (by decide) (fun c12 => absurd c12 (by decide)) (fun _ => ?_)
      refine lv_iload_n hx hb dX8_begin_19 rfl (lv_at hl 3 rfl) ?_
      refine lv_iconst (v := 0) hx hb dX8_begin_20 (by decide) ?_
      refine lv_iconst (v := 1) hx hb dX8_begin_21 (by decide) ?_
      refine g_cI C0 G (g_runS C0 G (rest := []) (k_X8_isWithin hfl a3 0 1) hY_X8_isWithin mm_X8_56 ms_X8_isWithin ⟨(Nat.le_of_ble_eq_true rfl), (Nat.le_of_ble_eq_true rfl)⟩ rfl hl.1 rfl (Nat.le_of_ble_eq_true rfl) dX8_begin_22 ⟨(Nat.le_of_ble_eq_true rfl), (Nat.le_of_ble_eq_true rfl)⟩) (kx_no rfl) (fun r15 u14 H locs hp13 G => ?_)
      obtain ⟨b16, eu14⟩ := hp13
      rw [eu14] at G
      rcases b16 with ⟨rfl, c17⟩ | ⟨rfl, c17⟩
      · refine lv_if_ne (tgt := 38) hx hb dX8_begin_25 (by decide) (fun _ => ?_) (fun c18 => absurd c18 (by decide))
        refine lv_aload_n hx hb dX8_begin_38 rfl (lv_at hl 0 rfl) ?_
        refine g_get C0 G h_sc rfl hiX8 2 (by decide) mf_X8_22 rfl dX8_begin_39 ?_
        refine lv_iload_n hx hb dX8_begin_42 rfl (lv_at hl 1 rfl) ?_
        refine lv_iload_n hx hb dX8_begin_43 rfl (lv_at hl 2 rfl) ?_
        refine lv_iload_n hx hb dX8_begin_44 rfl (lv_at hl 3 rfl) ?_
        refine g_cV C0 G (g_runV C0 G (rest := []) (k_X1_start hfl a1 a2 a3 h_lg) h_lg rfl hY_X1_start mm_X8_67 mi_X1_start ml_X1_start ⟨(Nat.le_of_ble_eq_true rfl), (Nat.le_of_ble_eq_true rfl)⟩ rfl hl.1 rfl (Nat.le_of_ble_eq_true rfl) dX8_begin_45 ⟨(Nat.le_of_ble_eq_true rfl), (Nat.le_of_ble_eq_true rfl)⟩) (kx_no rfl) (fun u20 H locs hp19 G => ?_)
        have k21 : u20 lg = some (.inr (3, [.ref ln, .ref lst, .ref len, .int a1, .int a2, .int a3, .int 0, .int 0, .int 0])) := hus hp19
        refine lv_aload_n hx hb dX8_begin_48 rfl (lv_at hl 0 rfl) ?_
        have k22 : u20 sc = some (.inr (10, [.ref m0, .ref m1, .ref lg, .ref sv, .ref tx, .ref r0, .ref r1, .int ea, .int ra, .int kr])) := hup hp19 (by omega) h_sc
        refine g_get C0 G k22 rfl hiX8 0 (by decide) mf_X8_10 rfl dX8_begin_49 ?_
        refine lv_aload_n hx hb dX8_begin_52 rfl (lv_at hl 0 rfl) ?_
        refine g_get C0 G k22 rfl hiX8 2 (by decide) mf_X8_22 rfl dX8_begin_53 ?_
        have k23 : u20 m0 = some (.inr (4, [.ref al, .int ex, .int ovr, .int each, .int first, .int number])) := hup hp19 (by omega) h_m0
        have k24 : u20 al = some (.inl (cy 3, 4, .inr (.inr (.inr (.inr ga))))) := hup hp19 (by omega) h_al
        have k25 : u20 i0 = some (.inr (2, [.ref i1, .ref i3, .ref i5, .ref i7, .ref i9, .ref i11, .int v0, .int v1, .int v2, .int v3, .int v4])) := hup hp19 (by omega) h_i0
        have k26 : u20 i1 = some (.inr (8, [.int 8, .ref i2, .int v5])) := hup hp19 (by omega) h_i1
        have k27 : u20 i2 = some (.inl (cy 0, 8, .inl g0)) := hup hp19 (by omega) h_i2
        have k28 : u20 i3 = some (.inr (8, [.int 6, .ref i4, .int v6])) := hup hp19 (by omega) h_i3
        have k29 : u20 i4 = some (.inl (cy 0, 66, .inl g1)) := hup hp19 (by omega) h_i4
        have k30 : u20 i5 = some (.inr (8, [.int 7, .ref i6, .int v7])) := hup hp19 (by omega) h_i5
        have k31 : u20 i6 = some (.inl (cy 0, 77, .inl g2)) := hup hp19 (by omega) h_i6
        have k32 : u20 i7 = some (.inr (8, [.int 8, .ref i8, .int v8])) := hup hp19 (by omega) h_i7
        have k33 : u20 i8 = some (.inl (cy 0, 4104, .inl g3)) := hup hp19 (by omega) h_i8
        have k34 : u20 i9 = some (.inr (8, [.int 3, .ref i10, .int v9])) := hup hp19 (by omega) h_i9
        have k35 : u20 i10 = some (.inl (cy 0, 33, .inl g4)) := hup hp19 (by omega) h_i10
        have k36 : u20 i11 = some (.inr (5, [.ref i12, .int v10, .int v11, .int v12, .int v13, .int v14, .int v15, .int v16, .int v17])) := hup hp19 (by omega) h_i11
        have k37 : u20 i12 = some (.inl (cy 0, 20, .inl g5)) := hup hp19 (by omega) h_i12
        refine g_cV C0 G (g_runV C0 G (rest := []) (k_X2_follow0 hfl k23 k24 k21 k25 k26 k27 k28 k29 k30 k31 k32 k33 k34 k35 k36 k37 hg0 (by simp only [Int32.lt_iff_toInt_lt, Int32.le_iff_toInt_le] at *; have h5 : (0 : Int32).toInt = 0 := rfl; have h6 : (1 : Int32).toInt = 1 := rfl; omega) oI ⟨by omega, by omega, by omega⟩) k23 rfl hY_X2_follow mm_X8_71 mi_X2_follow ml_X2_follow ⟨(Nat.le_of_ble_eq_true rfl), (Nat.le_of_ble_eq_true rfl)⟩ rfl hl.1 rfl (Nat.le_of_ble_eq_true rfl) dX8_begin_56 ⟨(Nat.le_of_ble_eq_true rfl), (Nat.le_of_ble_eq_true rfl)⟩) (kx_no rfl) (fun u39 H locs hp38 G => ?_)
        refine lv_iload_n hx hb dX8_begin_59 rfl (lv_at hl 1 rfl) ?_
        refine g_cI C0 G (g_runS C0 G (rest := []) (k_X3_quota hfl a1) hY_X3_quota mm_X8_75 ms_X3_quota ⟨(Nat.le_of_ble_eq_true rfl), (Nat.le_of_ble_eq_true rfl)⟩ rfl hl.1 rfl (Nat.le_of_ble_eq_true rfl) dX8_begin_60 ⟨(Nat.le_of_ble_eq_true rfl), (Nat.le_of_ble_eq_true rfl)⟩) (kx_no rfl) (fun r42 u41 H locs hp40 G => ?_)
        obtain ⟨rfl, eu41⟩ := hp40
        rw [eu41] at G
        exact g_iret C0 G hr dX8_begin_63 (Nat.le_of_ble_eq_true rfl) (Nat.le_of_ble_eq_true rfl) (by exact ⟨rfl, (by first | (simp_all; done) | (simp only [Int32.lt_iff_toInt_lt, Int32.le_iff_toInt_le] at *; omega)), fun a9 e9 h7 h8 => hp38 _ _ (fun q => h7 (by simp only [List.mem_cons, List.not_mem_nil, or_false] at q ⊢; omega)) (hup hp19 (fun q => h7 (by rw [q]; simp)) (h8))⟩)
      · refine lv_if_ne (tgt := 38) hx hb dX8_begin_25 (by decide) (fun c43 => absurd (by decide) c43) (fun _ => ?_)
        exact g_throw C0 G (X := "java/lang/IllegalArgumentException") (by decide) mk_X8_60 mz_java_lang_IllegalArgumentException (is := 62) (text := "overs, innings or team out of range") (by decide) hat_64 hl.1 dX8_begin_28 dX8_begin_31 dX8_begin_32 dX8_begin_34 dX8_begin_37 ⟨(Nat.le_of_ble_eq_true rfl), (Nat.le_of_ble_eq_true rfl)⟩ ⟨(Nat.le_of_ble_eq_true rfl), (Nat.le_of_ble_eq_true rfl)⟩ (Nat.le_of_ble_eq_true rfl) (Nat.le_of_ble_eq_true rfl) (by exact ⟨rfl, (by first | (simp_all; done) | (simp only [Int32.lt_iff_toInt_lt, Int32.le_iff_toInt_le] at *; omega)), rfl⟩)
    · refine lv_if_eq (tgt := 28) hx hb dX8_begin_16 (by decide) (fun _ => ?_) (fun c44 => absurd (by decide) c44)
      exact g_throw C0 G (X := "java/lang/IllegalArgumentException") (by decide) mk_X8_60 mz_java_lang_IllegalArgumentException (is := 62) (text := "overs, innings or team out of range") (by decide) hat_64 hl.1 dX8_begin_28 dX8_begin_31 dX8_begin_32 dX8_begin_34 dX8_begin_37 ⟨(Nat.le_of_ble_eq_true rfl), (Nat.le_of_ble_eq_true rfl)⟩ ⟨(Nat.le_of_ble_eq_true rfl), (Nat.le_of_ble_eq_true rfl)⟩ (Nat.le_of_ble_eq_true rfl) (Nat.le_of_ble_eq_true rfl) (by exact ⟨rfl, (by first | (simp_all; done) | (simp only [Int32.lt_iff_toInt_lt, Int32.le_iff_toInt_le] at *; omega)), rfl⟩)
  · refine lv_if_eq (tgt := 28) hx hb dX8_begin_7 (by decide) (fun _ => ?_) (fun c45 => absurd (by decide) c45)
    exact g_throw C0 G (X := "java/lang/IllegalArgumentException") (by decide) mk_X8_60 mz_java_lang_IllegalArgumentException (is := 62) (text := "overs, innings or team out of range") (by decide) hat_64 hl.1 dX8_begin_28 dX8_begin_31 dX8_begin_32 dX8_begin_34 dX8_begin_37 ⟨(Nat.le_of_ble_eq_true rfl), (Nat.le_of_ble_eq_true rfl)⟩ ⟨(Nat.le_of_ble_eq_true rfl), (Nat.le_of_ble_eq_true rfl)⟩ (Nat.le_of_ble_eq_true rfl) (Nat.le_of_ble_eq_true rfl) (by exact ⟨rfl, (by first | (simp_all; done) | (simp only [Int32.lt_iff_toInt_lt, Int32.le_iff_toInt_le] at *; omega)), rfl⟩)
