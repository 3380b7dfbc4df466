def X9_does0_g0 (gd : Nat → Int32) (d : Nat) : Nat → Int32 := upd gd (6 * d) 0
def X9_does0_g1 (p1 : Nat) (gd : Nat → Int32) (d : Nat) : Nat → Int32 := upd (X9_does0_g0 gd d) (6 * d + 1) (nI p1)
def X9_does0_g2 (p1 : Nat) (p2 : Int32) (gd : Nat → Int32) (d : Nat) : Nat → Int32 := upd (X9_does0_g1 p1 gd d) (6 * d + 2) p2
def X9_does0_g3 (p1 : Nat) (p2 : Int32) (p3 : Int32) (gd : Nat → Int32) (d : Nat) : Nat → Int32 := upd (X9_does0_g2 p1 p2 gd d) (6 * d + 3) p3
def X9_does0_g4 (p1 : Nat) (p2 : Int32) (p3 : Int32) (p4 : Int32) (gd : Nat → Int32) (d : Nat) : Nat → Int32 := upd (X9_does0_g3 p1 p2 p3 gd d) (6 * d + 4) p4
def X9_does0_g5 (p1 : Nat) (p2 : Int32) (p3 : Int32) (p4 : Int32) (p5 : Int32) (gd : Nat → Int32) (d : Nat) : Nat → Int32 := upd (X9_does0_g4 p1 p2 p3 p4 gd d) (6 * d + 5) p5
def X9_does0_g6 (g : Nat → Int32) (d : Nat) : Nat → Int32 := upd g 23 (nI (d + 1))
def X9_does0_g7 (g : Nat → Int32) (p1 : Nat) (d : Nat) : Nat → Int32 := upd (X9_does0_g6 g d) 9 (nI p1)
def X9_does0_r8 (g : Nat → Int32) (p1 : Nat) (i : Nat) (d : Nat) : Int32 := (X9_does0_g7 g p1 d) (333 + 7 * (11 * i + p1) + 6)
set_option maxRecDepth 100000 in
theorem k_X9_does0 {l : Launch} (hfl : l.stackTraces = false) {D : va_G} {cy : Nat → ClassId} {f : Hf} {sz : Nat} {m : Nat} {v : Nat} {im : Nat} {kp : Nat} {pa : Nat} {de : Nat} {ide : Nat} {tx : Nat} {pt : Nat} {so : Nat} {mo : Nat} {wh : Nat} {pf : Nat} {c_th : Int32} {c_re : Int32} {c_un : Int32} {c_hi : Int32} {c_tn : Int32} {c_fa : Int32} {c_rf : Int32} {c_ps : Int32} {c_pl : Int32} {c_to : Int32} {g : Nat → Int32} {p1 : Nat} (p2 : Int32) (p3 : Int32) (p4 : Int32) (p5 : Int32) {gd : Nat → Int32} {i : Nat} {d : Nat} (h_m : f m = some (.inr (11, [.int c_th, .int c_re, .ref v, .ref im, .ref kp, .ref pa, .ref de, .ref ide, .int c_un, .int c_hi, .ref tx, .int c_tn, .int c_fa, .int c_rf, .ref pt, .int c_ps, .int c_pl, .int c_to, .ref so, .ref mo, .ref wh, .ref pf]))) (h_v : f v = some (.inl (cy 0, 6441, .inl g))) (h_de : f de = some (.inl (cy 0, 24000, .inl gd))) (h4 : g 4 = nI i) (hi : i < 4) (h23 : g 23 = nI d) (hd : d < 4000) (hp : p1 < 11) : hMet l yX9_does cX9_does 9 (some .int) { frames := 1, cells := 0, slots := 0, locals := 22 } D (hTy cy) f sz [.ref m, .int 0, .int (nI p1), .int p2, .int p3, .int p4, .int p5] (hQi (fun r u => r = (X9_does0_r8 g p1 i d) ∧ u de = some (.inl (cy 0, 24000, .inl (X9_does0_g5 p1 p2 p3 p4 p5 gd d))) ∧ u v = some (.inl (cy 0, 6441, .inl (X9_does0_g7 g p1 d))) ∧ hFrL f u [de, v]) D f sz) hNo := by
  refine h_enter (by decide) hfl (Nat.le_of_ble_eq_true rfl) ?_
  intro p9 e9 s9 m9 b9 t9 c9 hsz C0 hr hnm G ls hl
  have hx := C0.1.1
  have hb := C0.1.2.1
  have hl : lv_has ls 9 [(0, .ref m), (1, .int 0), (2, .int (nI p1)), (3, .int p2), (4, .int p3), (5, .int p4), (6, .int p5)] := hl
  refine lv_bipush (v := 6) hx hb dX9_does_0 (by decide) ?_
  refine lv_aload_n hx hb dX9_does_2 rfl (lv_at hl 0 rfl) ?_
  refine g_get C0 G h_m rfl hiX9 2 (by decide) mf_X9_9 rfl dX9_does_3 ?_
  refine lv_bipush (v := 23) hx hb dX9_does_6 (by decide) ?_
  refine g_iald C0 G h_v 0 rfl (by unfold vp_in; decide) dX9_does_8 ?_
  refine lv_topv (v := g 23) rfl ?_
  refine lv_topv (v := nI d) (h23) ?_
  refine lv_imul hx hb dX9_does_9 ?_
  refine lv_topv (v := nI (6 * d)) ((pk_mul _ _)) ?_
  refine lv_istore (lv' := [(7, .int (nI (6 * d))), (0, .ref m), (1, .int 0), (2, .int (nI p1)), (3, .int p2), (4, .int p3), (5, .int p4), (6, .int p5)]) hx hb dX9_does_10 hl (by decide) rfl (fun ls hl => ?_)
  refine lv_aload_n hx hb dX9_does_12 rfl (lv_at hl 1 rfl) ?_
  refine g_get C0 G h_m rfl hiX9 6 (by decide) mf_X9_23 rfl dX9_does_13 ?_
  refine lv_iload hx hb dX9_does_16 (lv_at hl 0 rfl) ?_
  refine lv_iload_n hx hb dX9_does_18 rfl (lv_at hl 2 rfl) ?_
  refine g_iast C0 G h_de 0 rfl (vp_in_nI (by omega) (by omega)) dX9_does_19 (fun H locs f11 hf11 G => ?_)
  have k12 : f11 de = some (.inl (cy 0, 24000, .inl (X9_does0_g0 gd d))) := (by have h9 := hus hf11; rw [nI_c (by omega)] at h9; exact h9)
  refine lv_aload_n hx hb dX9_does_20 rfl (lv_at hl 1 rfl) ?_
  have k13 : f11 m = some (.inr (11, [.int c_th, .int c_re, .ref v, .ref im, .ref kp, .ref pa, .ref de, .ref ide, .int c_un, .int c_hi, .ref tx, .int c_tn, .int c_fa, .int c_rf, .ref pt, .int c_ps, .int c_pl, .int c_to, .ref so, .ref mo, .ref wh, .ref pf])) := hup hf11 (hne h_m h_de (by intro q; cases q)) h_m
  refine g_get C0 G k13 rfl hiX9 6 (by decide) mf_X9_23 rfl dX9_does_21 ?_
  refine lv_iload hx hb dX9_does_24 (lv_at hl 0 rfl) ?_
  refine lv_iconst (v := 1) hx hb dX9_does_26 (by decide) ?_
  refine lv_iadd hx hb dX9_does_27 ?_
  refine lv_topv (v := nI (6 * d + 1)) ((nI_add _ _)) ?_
  refine lv_iload_n hx hb dX9_does_28 rfl (lv_at hl 3 rfl) ?_
  refine g_iast C0 G k12 0 rfl (vp_in_nI (by omega) (by omega)) dX9_does_29 (fun H locs f14 hf14 G => ?_)
  have k15 : f14 de = some (.inl (cy 0, 24000, .inl (X9_does0_g1 p1 gd d))) := (by have h9 := hus hf14; rw [nI_c (by omega)] at h9; exact h9)
  refine lv_aload_n hx hb dX9_does_30 rfl (lv_at hl 1 rfl) ?_
  have k16 : f14 m = some (.inr (11, [.int c_th, .int c_re, .ref v, .ref im, .ref kp, .ref pa, .ref de, .ref ide, .int c_un, .int c_hi, .ref tx, .int c_tn, .int c_fa, .int c_rf, .ref pt, .int c_ps, .int c_pl, .int c_to, .ref so, .ref mo, .ref wh, .ref pf])) := hup hf14 (hne k13 k12 (by intro q; cases q)) k13
  refine g_get C0 G k16 rfl hiX9 6 (by decide) mf_X9_23 rfl dX9_does_31 ?_
  refine lv_iload hx hb dX9_does_34 (lv_at hl 0 rfl) ?_
  refine lv_iconst (v := 2) hx hb dX9_does_36 (by decide) ?_
  refine lv_iadd hx hb dX9_does_37 ?_
  refine lv_topv (v := nI (6 * d + 2)) ((nI_add _ _)) ?_
  refine lv_iload_n hx hb dX9_does_38 rfl (lv_at hl 4 rfl) ?_
  refine g_iast C0 G k15 0 rfl (vp_in_nI (by omega) (by omega)) dX9_does_39 (fun H locs f17 hf17 G => ?_)
  have k18 : f17 de = some (.inl (cy 0, 24000, .inl (X9_does0_g2 p1 p2 gd d))) := (by have h9 := hus hf17; rw [nI_c (by omega)] at h9; exact h9)
  refine lv_aload_n hx hb dX9_does_40 rfl (lv_at hl 1 rfl) ?_
  have k19 : f17 m = some (.inr (11, [.int c_th, .int c_re, .ref v, .ref im, .ref kp, .ref pa, .ref de, .ref ide, .int c_un, .int c_hi, .ref tx, .int c_tn, .int c_fa, .int c_rf, .ref pt, .int c_ps, .int c_pl, .int c_to, .ref so, .ref mo, .ref wh, .ref pf])) := hup hf17 (hne k16 k15 (by intro q; cases q)) k16
  refine g_get C0 G k19 rfl hiX9 6 (by decide) mf_X9_23 rfl dX9_does_41 ?_
  refine lv_iload hx hb dX9_does_44 (lv_at hl 0 rfl) ?_
  refine lv_iconst (v := 3) hx hb dX9_does_46 (by decide) ?_
  refine lv_iadd hx hb dX9_does_47 ?_
  refine lv_topv (v := nI (6 * d + 3)) ((nI_add _ _)) ?_
  refine lv_iload hx hb dX9_does_48 (lv_at hl 5 rfl) ?_
  refine g_iast C0 G k18 0 rfl (vp_in_nI (by omega) (by omega)) dX9_does_50 (fun H locs f20 hf20 G => ?_)
  have k21 : f20 de = some (.inl (cy 0, 24000, .inl (X9_does0_g3 p1 p2 p3 gd d))) := (by have h9 := hus hf20; rw [nI_c (by omega)] at h9; exact h9)
  refine lv_aload_n hx hb dX9_does_51 rfl (lv_at hl 1 rfl) ?_
  have k22 : f20 m = some (.inr (11, [.int c_th, .int c_re, .ref v, .ref im, .ref kp, .ref pa, .ref de, .ref ide, .int c_un, .int c_hi, .ref tx, .int c_tn, .int c_fa, .int c_rf, .ref pt, .int c_ps, .int c_pl, .int c_to, .ref so, .ref mo, .ref wh, .ref pf])) := hup hf20 (hne k19 k18 (by intro q; cases q)) k19
  refine g_get C0 G k22 rfl hiX9 6 (by decide) mf_X9_23 rfl dX9_does_52 ?_
  refine lv_iload hx hb dX9_does_55 (lv_at hl 0 rfl) ?_
  refine lv_iconst (v := 4) hx hb dX9_does_57 (by decide) ?_
  refine lv_iadd hx hb dX9_does_58 ?_
  refine lv_topv (v := nI (6 * d + 4)) ((nI_add _ _)) ?_
  refine lv_iload hx hb dX9_does_59 (lv_at hl 6 rfl) ?_
  refine g_iast C0 G k21 0 rfl (vp_in_nI (by omega) (by omega)) dX9_does_61 (fun H locs f23 hf23 G => ?_)
  have k24 : f23 de = some (.inl (cy 0, 24000, .inl (X9_does0_g4 p1 p2 p3 p4 gd d))) := (by have h9 := hus hf23; rw [nI_c (by omega)] at h9; exact h9)
  refine lv_aload_n hx hb dX9_does_62 rfl (lv_at hl 1 rfl) ?_
  have k25 : f23 m = some (.inr (11, [.int c_th, .int c_re, .ref v, .ref im, .ref kp, .ref pa, .ref de, .ref ide, .int c_un, .int c_hi, .ref tx, .int c_tn, .int c_fa, .int c_rf, .ref pt, .int c_ps, .int c_pl, .int c_to, .ref so, .ref mo, .ref wh, .ref pf])) := hup hf23 (hne k22 k21 (by intro q; cases q)) k22
  refine g_get C0 G k25 rfl hiX9 6 (by decide) mf_X9_23 rfl dX9_does_63 ?_
  refine lv_iload hx hb dX9_does_66 (lv_at hl 0 rfl) ?_
  refine lv_iconst (v := 5) hx hb dX9_does_68 (by decide) ?_
  refine lv_iadd hx hb dX9_does_69 ?_
  refine lv_topv (v := nI (6 * d + 5)) ((nI_add _ _)) ?_
  refine lv_iload hx hb dX9_does_70 (lv_at hl 7 rfl) ?_
  refine g_iast C0 G k24 0 rfl (vp_in_nI (by omega) (by omega)) dX9_does_72 (fun H locs f26 hf26 G => ?_)
  have k27 : f26 de = some (.inl (cy 0, 24000, .inl (X9_does0_g5 p1 p2 p3 p4 p5 gd d))) := (by have h9 := hus hf26; rw [nI_c (by omega)] at h9; exact h9)
  refine lv_aload_n hx hb dX9_does_73 rfl (lv_at hl 1 rfl) ?_
  have k28 : f26 m = some (.inr (11, [.int c_th, .int c_re, .ref v, .ref im, .ref kp, .ref pa, .ref de, .ref ide, .int c_un, .int c_hi, .ref tx, .int c_tn, .int c_fa, .int c_rf, .ref pt, .int c_ps, .int c_pl, .int c_to, .ref so, .ref mo, .ref wh, .ref pf])) := hup hf26 (hne k25 k24 (by intro q; cases q)) k25
  refine g_get C0 G k28 rfl hiX9 2 (by decide) mf_X9_9 rfl dX9_does_74 ?_
  refine lv_bipush (v := 23) hx hb dX9_does_77 (by decide) ?_
  refine lv_dup2_11 hx hb dX9_does_79 rfl rfl ?_
  have k29 : f26 v = some (.inl (cy 0, 6441, .inl g)) := hup hf26 (hne (hup hf23 (hne (hup hf20 (hne (hup hf17 (hne (hup hf14 (hne (hup hf11 (hne h_v h_de (by intro q; cases q)) h_v) k12 (by intro q; cases q)) (hup hf11 (hne h_v h_de (by intro q; cases q)) h_v)) k15 (by intro q; cases q)) (hup hf14 (hne (hup hf11 (hne h_v h_de (by intro q; cases q)) h_v) k12 (by intro q; cases q)) (hup hf11 (hne h_v h_de (by intro q; cases q)) h_v))) k18 (by intro q; cases q)) (hup hf17 (hne (hup hf14 (hne (hup hf11 (hne h_v h_de (by intro q; cases q)) h_v) k12 (by intro q; cases q)) (hup hf11 (hne h_v h_de (by intro q; cases q)) h_v)) k15 (by intro q; cases q)) (hup hf14 (hne (hup hf11 (hne h_v h_de (by intro q; cases q)) h_v) k12 (by intro q; cases q)) (hup hf11 (hne h_v h_de (by intro q; cases q)) h_v)))) k21 (by intro q; cases q)) (hup hf20 (hne (hup hf17 (hne (hup hf14 (hne (hup hf11 (hne h_v h_de (by intro q; cases q)) h_v) k12 (by intro q; cases q)) (hup hf11 (hne h_v h_de (by intro q; cases q)) h_v)) k15 (by intro q; cases q)) (hup hf14 (hne (hup hf11 (hne h_v h_de (by intro q; cases q)) h_v) k12 (by intro q; cases q)) (hup hf11 (hne h_v h_de (by intro q; cases q)) h_v))) k18 (by intro q; cases q)) (hup hf17 (hne (hup hf14 (hne (hup hf11 (hne h_v h_de (by intro q; cases q)) h_v) k12 (by intro q; cases q)) (hup hf11 (hne h_v h_de (by intro q; cases q)) h_v)) k15 (by intro q; cases q)) (hup hf14 (hne (hup hf11 (hne h_v h_de (by intro q; cases q)) h_v) k12 (by intro q; cases q)) (hup hf11 (hne h_v h_de (by intro q; cases q)) h_v))))) k24 (by intro q; cases q)) (hup hf23 (hne (hup hf20 (hne (hup hf17 (hne (hup hf14 (hne (hup hf11 (hne h_v h_de (by intro q; cases q)) h_v) k12 (by intro q; cases q)) (hup hf11 (hne h_v h_de (by intro q; cases q)) h_v)) k15 (by intro q; cases q)) (hup hf14 (hne (hup hf11 (hne h_v h_de (by intro q; cases q)) h_v) k12 (by intro q; cases q)) (hup hf11 (hne h_v h_de (by intro q; cases q)) h_v))) k18 (by intro q; cases q)) (hup hf17 (hne (hup hf14 (hne (hup hf11 (hne h_v h_de (by intro q; cases q)) h_v) k12 (by intro q; cases q)) (hup hf11 (hne h_v h_de (by intro q; cases q)) h_v)) k15 (by intro q; cases q)) (hup hf14 (hne (hup hf11 (hne h_v h_de (by intro q; cases q)) h_v) k12 (by intro q; cases q)) (hup hf11 (hne h_v h_de (by intro q; cases q)) h_v)))) k21 (by intro q; cases q)) (hup hf20 (hne (hup hf17 (hne (hup hf14 (hne (hup hf11 (hne h_v h_de (by intro q; cases q)) h_v) k12 (by intro q; cases q)) (hup hf11 (hne h_v h_de (by intro q; cases q)) h_v)) k15 (by intro q; cases q)) (hup hf14 (hne (hup hf11 (hne h_v h_de (by intro q; cases q)) h_v) k12 (by intro q; cases q)) (hup hf11 (hne h_v h_de (by intro q; cases q)) h_v))) k18 (by intro q; cases q)) (hup hf17 (hne (hup hf14 (hne (hup hf11 (hne h_v h_de (by intro q; cases q)) h_v) k12 (by intro q; cases q)) (hup hf11 (hne h_v h_de (by intro q; cases q)) h_v)) k15 (by intro q; cases q)) (hup hf14 (hne (hup hf11 (hne h_v h_de (by intro q; cases q)) h_v) k12 (by intro q; cases q)) (hup hf11 (hne h_v h_de (by intro q; cases q)) h_v)))))
  refine g_iald C0 G k29 0 rfl (by unfold vp_in; decide) dX9_does_80 ?_
  refine lv_topv (v := g 23) rfl ?_
  refine lv_topv (v := nI d) (h23) ?_
  refine lv_iconst (v := 1) hx hb dX9_does_81 (by decide) ?_
  refine lv_iadd hx hb dX9_does_82 ?_
  refine lv_topv (v := nI (d + 1)) ((nI_add _ _)) ?_
  refine g_iast C0 G k29 0 rfl (by unfold vp_in; decide) dX9_does_83 (fun H locs f30 hf30 G => ?_)
  have k31 : f30 v = some (.inl (cy 0, 6441, .inl (X9_does0_g6 g d))) := hus hf30
  refine lv_iload_n hx hb dX9_does_84 rfl (lv_at hl 2 rfl) ?_
  refine lv_tableIn (off := 39) (tgt := 124) hx hb dX9_does_85 (by decide) (by decide) rfl (by decide) ?_
  refine lv_aload_n hx hb dX9_does_124 rfl (lv_at hl 1 rfl) ?_
  have k32 : f30 m = some (.inr (11, [.int c_th, .int c_re, .ref v, .ref im, .ref kp, .ref pa, .ref de, .ref ide, .int c_un, .int c_hi, .ref tx, .int c_tn, .int c_fa, .int c_rf, .ref pt, .int c_ps, .int c_pl, .int c_to, .ref so, .ref mo, .ref wh, .ref pf])) := hup hf30 (hne k28 k29 (by intro q; cases q)) k28
  refine g_get C0 G k32 rfl hiX9 2 (by decide) mf_X9_9 rfl dX9_does_125 ?_
  refine lv_bipush (v := 9) hx hb dX9_does_128 (by decide) ?_
  refine lv_iload_n hx hb dX9_does_130 rfl (lv_at hl 3 rfl) ?_
  refine g_iast C0 G k31 0 rfl (by unfold vp_in; decide) dX9_does_131 (fun H locs f33 hf33 G => ?_)
  have k34 : f33 v = some (.inl (cy 0, 6441, .inl (X9_does0_g7 g p1 d))) := hus hf33
  refine lv_aload_n hx hb dX9_does_132 rfl (lv_at hl 1 rfl) ?_
  have k35 : f33 m = some (.inr (11, [.int c_th, .int c_re, .ref v, .ref im, .ref kp, .ref pa, .ref de, .ref ide, .int c_un, .int c_hi, .ref tx, .int c_tn, .int c_fa, .int c_rf, .ref pt, .int c_ps, .int c_pl, .int c_to, .ref so, .ref mo, .ref wh, .ref pf])) := hup hf33 (hne k32 k31 (by intro q; cases q)) k32
  refine g_get C0 G k35 rfl hiX9 2 (by decide) mf_X9_9 rfl dX9_does_133 ?_
  refine lv_aload_n hx hb dX9_does_136 rfl (lv_at hl 1 rfl) ?_
  refine g_get C0 G k35 rfl hiX9 2 (by decide) mf_X9_9 rfl dX9_does_137 ?_
  refine lv_iconst (v := 4) hx hb dX9_does_140 (by decide) ?_
  refine g_iald C0 G k34 0 rfl (by unfold vp_in; decide) dX9_does_141 ?_
  refine lv_topv (v := (X9_does0_g7 g p1 d) 4) rfl ?_
  refine lv_topv (v := nI i) ((by rw [X9_does0_g7, upd_off (by omega)]; exact (by rw [X9_does0_g6, upd_off (by omega)]; exact h4))) ?_
  refine lv_iload_n hx hb dX9_does_142 rfl (lv_at hl 3 rfl) ?_
  refine lv_bipush (v := 6) hx hb dX9_does_143 (by decide) ?_
  refine g_cI C0 G (g_runS C0 G (rest := [.ref v]) (k_X9_bowlerAt hfl (nI i) (nI p1) 6 ) hY_X9_bowlerAt mm_X9_105 ms_X9_bowlerAt ⟨(Nat.le_of_ble_eq_true rfl), (Nat.le_of_ble_eq_true rfl)⟩ rfl hl.1 rfl (Nat.le_of_ble_eq_true rfl) dX9_does_145 ⟨(Nat.le_of_ble_eq_true rfl), (Nat.le_of_ble_eq_true rfl)⟩) (kx_no rfl) (fun r38 u37 H locs hp36 G => ?_)
  obtain ⟨rfl, eu37⟩ := hp36
  rw [eu37] at G
  refine lv_topv (v := nI (333 + 7 * (11 * i + p1) + 6)) (bow_n i p1 6) ?_
  refine g_iald C0 G k34 0 rfl (vp_in_nI (by omega) (by omega)) dX9_does_148 ?_
  refine lv_topv (v := (X9_does0_g7 g p1 d) (333 + 7 * (11 * i + p1) + 6)) (congrArg (X9_does0_g7 g p1 d) (nI_c (by omega))) ?_
  have k39 : f33 de = some (.inl (cy 0, 24000, .inl (X9_does0_g5 p1 p2 p3 p4 p5 gd d))) := hup hf33 (hne (hup hf30 (hne k27 k29 (by intro q; cases q)) k27) k31 (by intro q; cases q)) (hup hf30 (hne k27 k29 (by intro q; cases q)) k27)
  exact g_iret C0 G hr dX9_does_149 (Nat.le_of_ble_eq_true rfl) (Nat.le_of_ble_eq_true rfl) (by exact ⟨(by rw [X9_does0_r8]), k39, k34, (fun a9 e9 h7 h8 => hup hf33 (fun q => h7 (by rw [q]; simp)) (hup hf30 (fun q => h7 (by rw [q]; simp)) (hup hf26 (fun q => h7 (by rw [q]; simp)) (hup hf23 (fun q => h7 (by rw [q]; simp)) (hup hf20 (fun q => h7 (by rw [q]; simp)) (hup hf17 (fun q => h7 (by rw [q]; simp)) (hup hf14 (fun q => h7 (by rw [q]; simp)) (hup hf11 (fun q => h7 (by rw [q]; simp)) (h8)))))))))⟩)
def X9_does1_g0 (gd : Nat → Int32) (d : Nat) : Nat → Int32 := upd gd (6 * d) 1
def X9_does1_g1 (p1 : Nat) (gd : Nat → Int32) (d : Nat) : Nat → Int32 := upd (X9_does1_g0 gd d) (6 * d + 1) (nI p1)
def X9_does1_g2 (p1 : Nat) (p2 : Int32) (gd : Nat → Int32) (d : Nat) : Nat → Int32 := upd (X9_does1_g1 p1 gd d) (6 * d + 2) p2
def X9_does1_g3 (p1 : Nat) (p2 : Int32) (p3 : Int32) (gd : Nat → Int32) (d : Nat) : Nat → Int32 := upd (X9_does1_g2 p1 p2 gd d) (6 * d + 3) p3
def X9_does1_g4 (p1 : Nat) (p2 : Int32) (p3 : Int32) (p4 : Int32) (gd : Nat → Int32) (d : Nat) : Nat → Int32 := upd (X9_does1_g3 p1 p2 p3 gd d) (6 * d + 4) p4
def X9_does1_g5 (p1 : Nat) (p2 : Int32) (p3 : Int32) (p4 : Int32) (p5 : Int32) (gd : Nat → Int32) (d : Nat) : Nat → Int32 := upd (X9_does1_g4 p1 p2 p3 p4 gd d) (6 * d + 5) p5
def X9_does1_g6 (g : Nat → Int32) (d : Nat) : Nat → Int32 := upd g 23 (nI (d + 1))
def X9_does1_x7 (p3 : Int32) : Int32 := if p3 = 1 then 1 else 0
def X9_does1_g8 (g : Nat → Int32) (p1 : Nat) (p2 : Int32) (p3 : Int32) (i : Nat) (a : Nat) (bo : Nat) (s : Nat) (cm : Nat) (e : Nat) (d : Nat) : Nat → Int32 := (X9_bowled_g2 (X9_does1_g6 g d) p1 p2 (X9_does1_x7 p3) i a bo s cm e)
set_option maxRecDepth 100000 in
theorem k_X9_does1 {l : Launch} (hfl : l.stackTraces = false) {D : va_G} {cy : Nat → ClassId} {f : Hf} {sz : Nat} {m : Nat} {v : Nat} {im : Nat} {kp : Nat} {pa : Nat} {de : Nat} {ide : Nat} {tx : Nat} {pt : Nat} {so : Nat} {mo : Nat} {wh : Nat} {pf : Nat} {c_th : Int32} {c_re : Int32} {c_un : Int32} {c_hi : Int32} {c_tn : Int32} {c_fa : Int32} {c_rf : Int32} {c_ps : Int32} {c_pl : Int32} {c_to : Int32} {g : Nat → Int32} {p1 : Nat} (p2 : Int32) (p3 : Int32) (p4 : Int32) (p5 : Int32) {gd : Nat → Int32} {i : Nat} {a : Nat} {bo : Nat} {s : Nat} {cm : Nat} {e : Nat} {d : Nat} (h_m : f m = some (.inr (11, [.int c_th, .int c_re, .ref v, .ref im, .ref kp, .ref pa, .ref de, .ref ide, .int c_un, .int c_hi, .ref tx, .int c_tn, .int c_fa, .int c_rf, .ref pt, .int c_ps, .int c_pl, .int c_to, .ref so, .ref mo, .ref wh, .ref pf]))) (h_v : f v = some (.inl (cy 0, 6441, .inl g))) (h_de : f de = some (.inl (cy 0, 24000, .inl gd))) (h4 : g 4 = nI i) (hi : i < 4) (h6 : g 6 = nI a) (ha : a < 11) (h9 : g 9 = nI bo) (hbo : bo < 11) (h22 : g 22 = nI s) (hs1 : 1 ≤ s) (hs : s < 699) (hcm : g (25 + 11 * i + 8) = nI cm) (hc : cm < 20) (h1 : g 1 = nI e) (he : e = 1 ∨ e = 2) (hie : i + 1 ≤ 2 * e) (hrr : i + 1 = 2 * e → e = 2 ∨ ¬ (g 14).toInt64 = 0) (h23 : g 23 = nI d) (hd : d < 4000) (hk : p1 < 5) : hMet l yX9_does cX9_does 9 (some .int) { frames := 4, cells := 0, slots := 0, locals := 95 } D (hTy cy) f sz [.ref m, .int 1, .int (nI p1), .int p2, .int p3, .int p4, .int p5] (hQi (fun r u => r = (X9_scores_x1 p1 p2) ∧ u de = some (.inl (cy 0, 24000, .inl (X9_does1_g5 p1 p2 p3 p4 p5 gd d))) ∧ u v = some (.inl (cy 0, 6441, .inl (X9_does1_g8 g p1 p2 p3 i a bo s cm e d))) ∧ hFrL f u [de, v]) D f sz) hNo := by
  refine h_enter (by decide) hfl (Nat.le_of_ble_eq_true rfl) ?_
  intro p9 e9 s9 m9 b9 t9 c9 hsz C0 hr hnm G ls hl
  have hx := C0.1.1
  have hb := C0.1.2.1
  have hl : lv_has ls 9 [(0, .ref m), (1, .int 1), (2, .int (nI p1)), (3, .int p2), (4, .int p3), (5, .int p4), (6, .int p5)] := hl
  refine lv_bipush (v := 6) hx hb dX9_does_0 (by decide) ?_
  refine lv_aload_n hx hb dX9_does_2 rfl (lv_at hl 0 rfl) ?_
  refine g_get C0 G h_m rfl hiX9 2 (by decide) mf_X9_9 rfl dX9_does_3 ?_
  refine lv_bipush (v := 23) hx hb dX9_does_6 (by decide) ?_
  refine g_iald C0 G h_v 0 rfl (by unfold vp_in; decide) dX9_does_8 ?_
  refine lv_topv (v := g 23) rfl ?_
  refine lv_topv (v := nI d) (h23) ?_
  refine lv_imul hx hb dX9_does_9 ?_
  refine lv_topv (v := nI (6 * d)) ((pk_mul _ _)) ?_
  refine lv_istore (lv' := [(7, .int (nI (6 * d))), (0, .ref m), (1, .int 1), (2, .int (nI p1)), (3, .int p2), (4, .int p3), (5, .int p4), (6, .int p5)]) hx hb dX9_does_10 hl (by decide) rfl (fun ls hl => ?_)
  refine lv_aload_n hx hb dX9_does_12 rfl (lv_at hl 1 rfl) ?_
  refine g_get C0 G h_m rfl hiX9 6 (by decide) mf_X9_23 rfl dX9_does_13 ?_
  refine lv_iload hx hb dX9_does_16 (lv_at hl 0 rfl) ?_
  refine lv_iload_n hx hb dX9_does_18 rfl (lv_at hl 2 rfl) ?_
  refine g_iast C0 G h_de 0 rfl (vp_in_nI (by omega) (by omega)) dX9_does_19 (fun H locs f11 hf11 G => ?_)
  have k12 : f11 de = some (.inl (cy 0, 24000, .inl (X9_does1_g0 gd d))) := (by have h9 := hus hf11; rw [nI_c (by omega)] at h9; exact h9)
  refine lv_aload_n hx hb dX9_does_20 rfl (lv_at hl 1 rfl) ?_
  have k13 : f11 m = some (.inr (11, [.int c_th, .int c_re, .ref v, .ref im, .ref kp, .ref pa, .ref de, .ref ide, .int c_un, .int c_hi, .ref tx, .int c_tn, .int c_fa, .int c_rf, .ref pt, .int c_ps, .int c_pl, .int c_to, .ref so, .ref mo, .ref wh, .ref pf])) := hup hf11 (hne h_m h_de (by intro q; cases q)) h_m
  refine g_get C0 G k13 rfl hiX9 6 (by decide) mf_X9_23 rfl dX9_does_21 ?_
  refine lv_iload hx hb dX9_does_24 (lv_at hl 0 rfl) ?_
  refine lv_iconst (v := 1) hx hb dX9_does_26 (by decide) ?_
  refine lv_iadd hx hb dX9_does_27 ?_
  refine lv_topv (v := nI (6 * d + 1)) ((nI_add _ _)) ?_
  refine lv_iload_n hx hb dX9_does_28 rfl (lv_at hl 3 rfl) ?_
  refine g_iast C0 G k12 0 rfl (vp_in_nI (by omega) (by omega)) dX9_does_29 (fun H locs f14 hf14 G => ?_)
  have k15 : f14 de = some (.inl (cy 0, 24000, .inl (X9_does1_g1 p1 gd d))) := (by have h9 := hus hf14; rw [nI_c (by omega)] at h9; exact h9)
  refine lv_aload_n hx hb dX9_does_30 rfl (lv_at hl 1 rfl) ?_
  have k16 : f14 m = some (.inr (11, [.int c_th, .int c_re, .ref v, .ref im, .ref kp, .ref pa, .ref de, .ref ide, .int c_un, .int c_hi, .ref tx, .int c_tn, .int c_fa, .int c_rf, .ref pt, .int c_ps, .int c_pl, .int c_to, .ref so, .ref mo, .ref wh, .ref pf])) := hup hf14 (hne k13 k12 (by intro q; cases q)) k13
  refine g_get C0 G k16 rfl hiX9 6 (by decide) mf_X9_23 rfl dX9_does_31 ?_
  refine lv_iload hx hb dX9_does_34 (lv_at hl 0 rfl) ?_
  refine lv_iconst (v := 2) hx hb dX9_does_36 (by decide) ?_
  refine lv_iadd hx hb dX9_does_37 ?_
  refine lv_topv (v := nI (6 * d + 2)) ((nI_add _ _)) ?_
  refine lv_iload_n hx hb dX9_does_38 rfl (lv_at hl 4 rfl) ?_
  refine g_iast C0 G k15 0 rfl (vp_in_nI (by omega) (by omega)) dX9_does_39 (fun H locs f17 hf17 G => ?_)
  have k18 : f17 de = some (.inl (cy 0, 24000, .inl (X9_does1_g2 p1 p2 gd d))) := (by have h9 := hus hf17; rw [nI_c (by omega)] at h9; exact h9)
  refine lv_aload_n hx hb dX9_does_40 rfl (lv_at hl 1 rfl) ?_
  have k19 : f17 m = some (.inr (11, [.int c_th, .int c_re, .ref v, .ref im, .ref kp, .ref pa, .ref de, .ref ide, .int c_un, .int c_hi, .ref tx, .int c_tn, .int c_fa, .int c_rf, .ref pt, .int c_ps, .int c_pl, .int c_to, .ref so, .ref mo, .ref wh, .ref pf])) := hup hf17 (hne k16 k15 (by intro q; cases q)) k16
  refine g_get C0 G k19 rfl hiX9 6 (by decide) mf_X9_23 rfl dX9_does_41 ?_
  refine lv_iload hx hb dX9_does_44 (lv_at hl 0 rfl) ?_
  refine lv_iconst (v := 3) hx hb dX9_does_46 (by decide) ?_
  refine lv_iadd hx hb dX9_does_47 ?_
  refine lv_topv (v := nI (6 * d + 3)) ((nI_add _ _)) ?_
  refine lv_iload hx hb dX9_does_48 (lv_at hl 5 rfl) ?_
  refine g_iast C0 G k18 0 rfl (vp_in_nI (by omega) (by omega)) dX9_does_50 (fun H locs f20 hf20 G => ?_)
  have k21 : f20 de = some (.inl (cy 0, 24000, .inl (X9_does1_g3 p1 p2 p3 gd d))) := (by have h9 := hus hf20; rw [nI_c (by omega)] at h9; exact h9)
  refine lv_aload_n hx hb dX9_does_51 rfl (lv_at hl 1 rfl) ?_
  have k22 : f20 m = some (.inr (11, [.int c_th, .int c_re, .ref v, .ref im, .ref kp, .ref pa, .ref de, .ref ide, .int c_un, .int c_hi, .ref tx, .int c_tn, .int c_fa, .int c_rf, .ref pt, .int c_ps, .int c_pl, .int c_to, .ref so, .ref mo, .ref wh, .ref pf])) := hup hf20 (hne k19 k18 (by intro q; cases q)) k19
  refine g_get C0 G k22 rfl hiX9 6 (by decide) mf_X9_23 rfl dX9_does_52 ?_
  refine lv_iload hx hb dX9_does_55 (lv_at hl 0 rfl) ?_
  refine lv_iconst (v := 4) hx hb dX9_does_57 (by decide) ?_
  refine lv_iadd hx hb dX9_does_58 ?_
  refine lv_topv (v := nI (6 * d + 4)) ((nI_add _ _)) ?_
  refine lv_iload hx hb dX9_does_59 (lv_at hl 6 rfl) ?_
  refine g_iast C0 G k21 0 rfl (vp_in_nI (by omega) (by omega)) dX9_does_61 (fun H locs f23 hf23 G => ?_)
  have k24 : f23 de = some (.inl (cy 0, 24000, .inl (X9_does1_g4 p1 p2 p3 p4 gd d))) := (by have h9 := hus hf23; rw [nI_c (by omega)] at h9; exact h9)
  refine lv_aload_n hx hb dX9_does_62 rfl (lv_at hl 1 rfl) ?_
  have k25 : f23 m = some (.inr (11, [.int c_th, .int c_re, .ref v, .ref im, .ref kp, .ref pa, .ref de, .ref ide, .int c_un, .int c_hi, .ref tx, .int c_tn, .int c_fa, .int c_rf, .ref pt, .int c_ps, .int c_pl, .int c_to, .ref so, .ref mo, .ref wh, .ref pf])) := hup hf23 (hne k22 k21 (by intro q; cases q)) k22
  refine g_get C0 G k25 rfl hiX9 6 (by decide) mf_X9_23 rfl dX9_does_63 ?_
  refine lv_iload hx hb dX9_does_66 (lv_at hl 0 rfl) ?_
  refine lv_iconst (v := 5) hx hb dX9_does_68 (by decide) ?_
  refine lv_iadd hx hb dX9_does_69 ?_
  refine lv_topv (v := nI (6 * d + 5)) ((nI_add _ _)) ?_
  refine lv_iload hx hb dX9_does_70 (lv_at hl 7 rfl) ?_
  refine g_iast C0 G k24 0 rfl (vp_in_nI (by omega) (by omega)) dX9_does_72 (fun H locs f26 hf26 G => ?_)
  have k27 : f26 de = some (.inl (cy 0, 24000, .inl (X9_does1_g5 p1 p2 p3 p4 p5 gd d))) := (by have h9 := hus hf26; rw [nI_c (by omega)] at h9; exact h9)
  refine lv_aload_n hx hb dX9_does_73 rfl (lv_at hl 1 rfl) ?_
  have k28 : f26 m = some (.inr (11, [.int c_th, .int c_re, .ref v, .ref im, .ref kp, .ref pa, .ref de, .ref ide, .int c_un, .int c_hi, .ref tx, .int c_tn, .int c_fa, .int c_rf, .ref pt, .int c_ps, .int c_pl, .int c_to, .ref so, .ref mo, .ref wh, .ref pf])) := hup hf26 (hne k25 k24 (by intro q; cases q)) k25
  refine g_get C0 G k28 rfl hiX9 2 (by decide) mf_X9_9 rfl dX9_does_74 ?_
  refine lv_bipush (v := 23) hx hb dX9_does_77 (by decide) ?_
  refine lv_dup2_11 hx hb dX9_does_79 rfl rfl ?_
  have k29 : f26 v = some (.inl (cy 0, 6441, .inl g)) := hup hf26 (hne (hup hf23 (hne (hup hf20 (hne (hup hf17 (hne (hup hf14 (hne (hup hf11 (hne h_v h_de (by intro q; cases q)) h_v) k12 (by intro q; cases q)) (hup hf11 (hne h_v h_de (by intro q; cases q)) h_v)) k15 (by intro q; cases q)) (hup hf14 (hne (hup hf11 (hne h_v h_de (by intro q; cases q)) h_v) k12 (by intro q; cases q)) (hup hf11 (hne h_v h_de (by intro q; cases q)) h_v))) k18 (by intro q; cases q)) (hup hf17 (hne (hup hf14 (hne (hup hf11 (hne h_v h_de (by intro q; cases q)) h_v) k12 (by intro q; cases q)) (hup hf11 (hne h_v h_de (by intro q; cases q)) h_v)) k15 (by intro q; cases q)) (hup hf14 (hne (hup hf11 (hne h_v h_de (by intro q; cases q)) h_v) k12 (by intro q; cases q)) (hup hf11 (hne h_v h_de (by intro q; cases q)) h_v)))) k21 (by intro q; cases q)) (hup hf20 (hne (hup hf17 (hne (hup hf14 (hne (hup hf11 (hne h_v h_de (by intro q; cases q)) h_v) k12 (by intro q; cases q)) (hup hf11 (hne h_v h_de (by intro q; cases q)) h_v)) k15 (by intro q; cases q)) (hup hf14 (hne (hup hf11 (hne h_v h_de (by intro q; cases q)) h_v) k12 (by intro q; cases q)) (hup hf11 (hne h_v h_de (by intro q; cases q)) h_v))) k18 (by intro q; cases q)) (hup hf17 (hne (hup hf14 (hne (hup hf11 (hne h_v h_de (by intro q; cases q)) h_v) k12 (by intro q; cases q)) (hup hf11 (hne h_v h_de (by intro q; cases q)) h_v)) k15 (by intro q; cases q)) (hup hf14 (hne (hup hf11 (hne h_v h_de (by intro q; cases q)) h_v) k12 (by intro q; cases q)) (hup hf11 (hne h_v h_de (by intro q; cases q)) h_v))))) k24 (by intro q; cases q)) (hup hf23 (hne (hup hf20 (hne (hup hf17 (hne (hup hf14 (hne (hup hf11 (hne h_v h_de (by intro q; cases q)) h_v) k12 (by intro q; cases q)) (hup hf11 (hne h_v h_de (by intro q; cases q)) h_v)) k15 (by intro q; cases q)) (hup hf14 (hne (hup hf11 (hne h_v h_de (by intro q; cases q)) h_v) k12 (by intro q; cases q)) (hup hf11 (hne h_v h_de (by intro q; cases q)) h_v))) k18 (by intro q; cases q)) (hup hf17 (hne (hup hf14 (hne (hup hf11 (hne h_v h_de (by intro q; cases q)) h_v) k12 (by intro q; cases q)) (hup hf11 (hne h_v h_de (by intro q; cases q)) h_v)) k15 (by intro q; cases q)) (hup hf14 (hne (hup hf11 (hne h_v h_de (by intro q; cases q)) h_v) k12 (by intro q; cases q)) (hup hf11 (hne h_v h_de (by intro q; cases q)) h_v)))) k21 (by intro q; cases q)) (hup hf20 (hne (hup hf17 (hne (hup hf14 (hne (hup hf11 (hne h_v h_de (by intro q; cases q)) h_v) k12 (by intro q; cases q)) (hup hf11 (hne h_v h_de (by intro q; cases q)) h_v)) k15 (by intro q; cases q)) (hup hf14 (hne (hup hf11 (hne h_v h_de (by intro q; cases q)) h_v) k12 (by intro q; cases q)) (hup hf11 (hne h_v h_de (by intro q; cases q)) h_v))) k18 (by intro q; cases q)) (hup hf17 (hne (hup hf14 (hne (hup hf11 (hne h_v h_de (by intro q; cases q)) h_v) k12 (by intro q; cases q)) (hup hf11 (hne h_v h_de (by intro q; cases q)) h_v)) k15 (by intro q; cases q)) (hup hf14 (hne (hup hf11 (hne h_v h_de (by intro q; cases q)) h_v) k12 (by intro q; cases q)) (hup hf11 (hne h_v h_de (by intro q; cases q)) h_v)))))
  refine g_iald C0 G k29 0 rfl (by unfold vp_in; decide) dX9_does_80 ?_
  refine lv_topv (v := g 23) rfl ?_
  refine lv_topv (v := nI d) (h23) ?_
  refine lv_iconst (v := 1) hx hb dX9_does_81 (by decide) ?_
  refine lv_iadd hx hb dX9_does_82 ?_
  refine lv_topv (v := nI (d + 1)) ((nI_add _ _)) ?_
  refine g_iast C0 G k29 0 rfl (by unfold vp_in; decide) dX9_does_83 (fun H locs f30 hf30 G => ?_)
  have k31 : f30 v = some (.inl (cy 0, 6441, .inl (X9_does1_g6 g d))) := hus hf30
  refine lv_iload_n hx hb dX9_does_84 rfl (lv_at hl 2 rfl) ?_
  refine lv_tableIn (off := 65) (tgt := 150) hx hb dX9_does_85 (by decide) (by decide) rfl (by decide) ?_
  refine lv_aload_n hx hb dX9_does_150 rfl (lv_at hl 1 rfl) ?_
  refine lv_iload_n hx hb dX9_does_151 rfl (lv_at hl 3 rfl) ?_
  refine lv_iload_n hx hb dX9_does_152 rfl (lv_at hl 4 rfl) ?_
  refine lv_iload hx hb dX9_does_153 (lv_at hl 5 rfl) ?_
  refine lv_iconst (v := 1) hx hb dX9_does_155 (by decide) ?_
  have J34 : ∀ (y33 : Int32) (_ : y33 = (X9_does1_x7 p3)) (H : Heap) (locs : List Loc) (ls : Array Slot), hG D (hA f sz) f30 s9 H locs → lv_has ls 9 [(7, .int (nI (6 * d))), (0, .ref m), (1, .int 1), (2, .int (nI p1)), (3, .int p2), (4, .int p3), (5, .int p4), (6, .int p5)] → W p9 l e9 ({ frames := 4, cells := 0, slots := 0, locals := 95 } : Room) s9 m9 ([.ref m, .int 1, .int (nI p1), .int p2, .int p3, .int p4, .int p5] : List Value).toArray b9 t9 c9 H locs 0 0 (vx_MQ b9 (hQi (fun r u => r = (X9_scores_x1 p1 p2) ∧ u de = some (.inl (cy 0, 24000, .inl (X9_does1_g5 p1 p2 p3 p4 p5 gd d))) ∧ u v = some (.inl (cy 0, 6441, .inl (X9_does1_g8 g p1 p2 p3 i a bo s cm e d))) ∧ hFrL f u [de, v]) D f sz) (hPx hNo D f sz) ([.ref m, .int 1, .int (nI p1), .int p2, .int p3, .int p4, .int p5] : List Value).toArray s9 0 0 (hA f sz)) (F0 m9 164 ls [.int y33, .int p2, .int (nI p1), .ref m]) := by
    intro y33 ey33 H locs ls G hl
    subst ey33
    have k36 : f30 m = some (.inr (11, [.int c_th, .int c_re, .ref v, .ref im, .ref kp, .ref pa, .ref de, .ref ide, .int c_un, .int c_hi, .ref tx, .int c_tn, .int c_fa, .int c_rf, .ref pt, .int c_ps, .int c_pl, .int c_to, .ref so, .ref mo, .ref wh, .ref pf])) := hup hf30 (hne k28 k29 (by intro q; cases q)) k28
    refine g_cI C0 G (g_runV C0 G (rest := []) (k_X9_bowled hfl p2 (X9_does1_x7 p3) k36 k31 (by rw [X9_does1_g6, upd_off (by omega)]; exact h4) hi (by rw [X9_does1_g6, upd_off (by omega)]; exact h6) ha (by rw [X9_does1_g6, upd_off (by omega)]; exact h9) hbo (by rw [X9_does1_g6, upd_off (by omega)]; exact h22) hs1 hs (by rw [X9_does1_g6, upd_off (by omega)]; exact hcm) hc (by rw [X9_does1_g6, upd_off (by omega)]; exact h1) he hie (fun q => by have e9 : (X9_does1_g6 g d) 14 = g 14 := (by rw [X9_does1_g6, upd_off (by omega)]); rw [e9]; exact hrr q) hk (by repeat (first | exact Or.inl rfl | exact Or.inr rfl | assumption | split | unfold X9_does1_x7))) k36 rfl hY_X9_bowled mm_X9_125 mi_X9_bowled ml_X9_bowled ⟨(Nat.le_of_ble_eq_true rfl), (Nat.le_of_ble_eq_true rfl)⟩ rfl hl.1 rfl (Nat.le_of_ble_eq_true rfl) dX9_does_164 ⟨(Nat.le_of_ble_eq_true rfl), (Nat.le_of_ble_eq_true rfl)⟩) (kx_no rfl) (fun r39 u38 H locs hp37 G => ?_)
    obtain ⟨rfl, k40, fr41⟩ := hp37
    have k42 : u38 de = some (.inl (cy 0, 24000, .inl (X9_does1_g5 p1 p2 p3 p4 p5 gd d))) := fr41 _ _ (by simp only [List.mem_cons, List.not_mem_nil, or_false]; intro q; exact (hne (hup hf30 (hne k27 k29 (by intro q; cases q)) k27) k31 (by intro q; cases q)) q) (hup hf30 (hne k27 k29 (by intro q; cases q)) k27)
    exact g_iret C0 G hr dX9_does_167 (Nat.le_of_ble_eq_true rfl) (Nat.le_of_ble_eq_true rfl) (by exact ⟨rfl, k42, (by rw [(by rw [X9_does1_g8] : (X9_does1_g8 g p1 p2 p3 i a bo s cm e d) = (X9_bowled_g2 (X9_does1_g6 g d) p1 p2 (X9_does1_x7 p3) i a bo s cm e))]; exact k40), (fun a9 e9 h7 h8 => fr41 _ _ (fun q => h7 (by simp only [List.mem_cons, List.not_mem_nil, or_false] at q ⊢; first | exact q | (rcases q with q <;> simp [q]) | omega)) (hup hf30 (fun q => h7 (by rw [q]; simp)) (hup hf26 (fun q => h7 (by rw [q]; simp)) (hup hf23 (fun q => h7 (by rw [q]; simp)) (hup hf20 (fun q => h7 (by rw [q]; simp)) (hup hf17 (fun q => h7 (by rw [q]; simp)) (hup hf14 (fun q => h7 (by rw [q]; simp)) (hup hf11 (fun q => h7 (by rw [q]; simp)) (h8)))))))))⟩)
  refine lv_icmp_ne (tgt := 163) hx hb dX9_does_156 (by decide) (fun c32 => ?_) (fun c32 => ?_)
  · refine lv_iconst (v := 0) hx hb dX9_does_163 (by decide) ?_
    exact J34 0 (by rw [X9_does1_x7, if_neg c32]) _ _ _ G (lv_sub hl [0, 1, 2, 3, 4, 5, 6, 7] rfl)
  · refine lv_iconst (v := 1) hx hb dX9_does_159 (by decide) ?_
    refine lv_goto (tgt := 164) hx hb dX9_does_160 (by decide) ?_
    exact J34 1 (by rw [X9_does1_x7, if_pos c32]) _ _ _ G (lv_sub hl [0, 1, 2, 3, 4, 5, 6, 7] rfl)
def X9_does2N_g0 (gd : Nat → Int32) (d : Nat) : Nat → Int32 := upd gd (6 * d) 2
def X9_does2N_g1 (p1 : Int32) (gd : Nat → Int32) (d : Nat) : Nat → Int32 := upd (X9_does2N_g0 gd d) (6 * d + 1) p1
def X9_does2N_g2 (p1 : Int32) (p2 : Nat) (gd : Nat → Int32) (d : Nat) : Nat → Int32 := upd (X9_does2N_g1 p1 gd d) (6 * d + 2) (nI p2)
def X9_does2N_g3 (p1 : Int32) (p2 : Nat) (p3 : Int32) (gd : Nat → Int32) (d : Nat) : Nat → Int32 := upd (X9_does2N_g2 p1 p2 gd d) (6 * d + 3) p3
def X9_does2N_g4 (p1 : Int32) (p2 : Nat) (p3 : Int32) (p4 : Int32) (gd : Nat → Int32) (d : Nat) : Nat → Int32 := upd (X9_does2N_g3 p1 p2 p3 gd d) (6 * d + 4) p4
def X9_does2N_g5 (p1 : Int32) (p2 : Nat) (p3 : Int32) (p4 : Int32) (p5 : Int32) (gd : Nat → Int32) (d : Nat) : Nat → Int32 := upd (X9_does2N_g4 p1 p2 p3 p4 gd d) (6 * d + 5) p5
def X9_does2N_g6 (g : Nat → Int32) (d : Nat) : Nat → Int32 := upd g 23 (nI (d + 1))
def X9_does2N_x7 (p3 : Int32) : Int32 := if p3 = 1 then 1 else 0
def X9_does2N_x8 (p5 : Int32) : Int32 := if p5 = 1 then 1 else 0
def X9_does2N_g9 (g : Nat → Int32) (p1 : Int32) (p2 : Nat) (p3 : Int32) (p4 : Int32) (p5 : Int32) (i : Nat) (a : Nat) (b2 : Nat) (bo : Nat) (s : Nat) (cm : Nat) (wk : Nat) (e : Nat) (d : Nat) : Nat → Int32 := (X9_fallsN_g12 (X9_does2N_g6 g d) p1 p2 (X9_does2N_x7 p3) p4 (X9_does2N_x8 p5) i a b2 bo s cm wk e)
set_option maxRecDepth 100000 in
theorem k_X9_does2N {l : Launch} (hfl : l.stackTraces = false) {D : va_G} {cy : Nat → ClassId} {f : Hf} {sz : Nat} {m : Nat} {v : Nat} {im : Nat} {kp : Nat} {pa : Nat} {de : Nat} {ide : Nat} {tx : Nat} {pt : Nat} {so : Nat} {mo : Nat} {wh : Nat} {pf : Nat} {c_th : Int32} {c_re : Int32} {c_un : Int32} {c_hi : Int32} {c_tn : Int32} {c_fa : Int32} {c_rf : Int32} {c_ps : Int32} {c_pl : Int32} {c_to : Int32} {g : Nat → Int32} (p1 : Int32) {p2 : Nat} (p3 : Int32) (p4 : Int32) (p5 : Int32) {gd : Nat → Int32} {i : Nat} {a : Nat} {b2 : Nat} {bo : Nat} {s : Nat} {cm : Nat} {wk : Nat} {e : Nat} {d : Nat} (h_m : f m = some (.inr (11, [.int c_th, .int c_re, .ref v, .ref im, .ref kp, .ref pa, .ref de, .ref ide, .int c_un, .int c_hi, .ref tx, .int c_tn, .int c_fa, .int c_rf, .ref pt, .int c_ps, .int c_pl, .int c_to, .ref so, .ref mo, .ref wh, .ref pf]))) (h_v : f v = some (.inl (cy 0, 6441, .inl g))) (h_de : f de = some (.inl (cy 0, 24000, .inl gd))) (h4 : g 4 = nI i) (hi : i < 4) (h6 : g 6 = nI a) (ha : a < 11) (h7 : g 7 = nI b2) (hb2 : b2 < 11) (h9 : g 9 = nI bo) (hbo : bo < 11) (h22 : g 22 = nI s) (hs1 : 1 ≤ s) (hs : s < 699) (hcm : g (25 + 11 * i + 8) = nI cm) (hc : cm < 20) (hwk : g (25 + 11 * i + 1) = nI wk) (hwk1 : wk < 11) (h1 : g 1 = nI e) (he : e = 1 ∨ e = 2) (hie : i + 1 ≤ 2 * e) (hrr : i + 1 = 2 * e → e = 2 ∨ ¬ (g 14).toInt64 = 0) (hn : X9_next_r1 g i = -1) (h23 : g 23 = nI d) (hd : d < 4000) (hk : p2 < 5) : hMet l yX9_does cX9_does 9 (some .int) { frames := 4, cells := 0, slots := 0, locals := 101 } D (hTy cy) f sz [.ref m, .int 2, .int p1, .int (nI p2), .int p3, .int p4, .int p5] (hQi (fun r u => r = (X9_fallsN_r11 wk) ∧ u de = some (.inl (cy 0, 24000, .inl (X9_does2N_g5 p1 p2 p3 p4 p5 gd d))) ∧ u v = some (.inl (cy 0, 6441, .inl (X9_does2N_g9 g p1 p2 p3 p4 p5 i a b2 bo s cm wk e d))) ∧ hFrL f u [de, v]) D f sz) hNo := by
  refine h_enter (by decide) hfl (Nat.le_of_ble_eq_true rfl) ?_
  intro p9 e9 s9 m9 b9 t9 c9 hsz C0 hr hnm G ls hl
  have hx := C0.1.1
  have hb := C0.1.2.1
  have hl : lv_has ls 9 [(0, .ref m), (1, .int 2), (2, .int p1), (3, .int (nI p2)), (4, .int p3), (5, .int p4), (6, .int p5)] := hl
  refine lv_bipush (v := 6) hx hb dX9_does_0 (by decide) ?_
  refine lv_aload_n hx hb dX9_does_2 rfl (lv_at hl 0 rfl) ?_
  refine g_get C0 G h_m rfl hiX9 2 (by decide) mf_X9_9 rfl dX9_does_3 ?_
  refine lv_bipush (v := 23) hx hb dX9_does_6 (by decide) ?_
  refine g_iald C0 G h_v 0 rfl (by unfold vp_in; decide) dX9_does_8 ?_
  refine lv_topv (v := g 23) rfl ?_
  refine lv_topv (v := nI d) (h23) ?_
  refine lv_imul hx hb dX9_does_9 ?_
  refine lv_topv (v := nI (6 * d)) ((pk_mul _ _)) ?_
  refine lv_istore (lv' := [(7, .int (nI (6 * d))), (0, .ref m), (1, .int 2), (2, .int p1), (3, .int (nI p2)), (4, .int p3), (5, .int p4), (6, .int p5)]) hx hb dX9_does_10 hl (by decide) rfl (fun ls hl => ?_)
  refine lv_aload_n hx hb dX9_does_12 rfl (lv_at hl 1 rfl) ?_
  refine g_get C0 G h_m rfl hiX9 6 (by decide) mf_X9_23 rfl dX9_does_13 ?_
  refine lv_iload hx hb dX9_does_16 (lv_at hl 0 rfl) ?_
  refine lv_iload_n hx hb dX9_does_18 rfl (lv_at hl 2 rfl) ?_
  refine g_iast C0 G h_de 0 rfl (vp_in_nI (by omega) (by omega)) dX9_does_19 (fun H locs f11 hf11 G => ?_)
  have k12 : f11 de = some (.inl (cy 0, 24000, .inl (X9_does2N_g0 gd d))) := (by have h9 := hus hf11; rw [nI_c (by omega)] at h9; exact h9)
  refine lv_aload_n hx hb dX9_does_20 rfl (lv_at hl 1 rfl) ?_
  have k13 : f11 m = some (.inr (11, [.int c_th, .int c_re, .ref v, .ref im, .ref kp, .ref pa, .ref de, .ref ide, .int c_un, .int c_hi, .ref tx, .int c_tn, .int c_fa, .int c_rf, .ref pt, .int c_ps, .int c_pl, .int c_to, .ref so, .ref mo, .ref wh, .ref pf])) := hup hf11 (hne h_m h_de (by intro q; cases q)) h_m
  refine g_get C0 G k13 rfl hiX9 6 (by decide) mf_X9_23 rfl dX9_does_21 ?_
  refine lv_iload hx hb dX9_does_24 (lv_at hl 0 rfl) ?_
  refine lv_iconst (v := 1) hx hb dX9_does_26 (by decide) ?_
  refine lv_iadd hx hb dX9_does_27 ?_
  refine lv_topv (v := nI (6 * d + 1)) ((nI_add _ _)) ?_
  refine lv_iload_n hx hb dX9_does_28 rfl (lv_at hl 3 rfl) ?_
  refine g_iast C0 G k12 0 rfl (vp_in_nI (by omega) (by omega)) dX9_does_29 (fun H locs f14 hf14 G => ?_)
  have k15 : f14 de = some (.inl (cy 0, 24000, .inl (X9_does2N_g1 p1 gd d))) := (by have h9 := hus hf14; rw [nI_c (by omega)] at h9; exact h9)
  refine lv_aload_n hx hb dX9_does_30 rfl (lv_at hl 1 rfl) ?_
  have k16 : f14 m = some (.inr (11, [.int c_th, .int c_re, .ref v, .ref im, .ref kp, .ref pa, .ref de, .ref ide, .int c_un, .int c_hi, .ref tx, .int c_tn, .int c_fa, .int c_rf, .ref pt, .int c_ps, .int c_pl, .int c_to, .ref so, .ref mo, .ref wh, .ref pf])) := hup hf14 (hne k13 k12 (by intro q; cases q)) k13
  refine g_get C0 G k16 rfl hiX9 6 (by decide) mf_X9_23 rfl dX9_does_31 ?_
  refine lv_iload hx hb dX9_does_34 (lv_at hl 0 rfl) ?_
  refine lv_iconst (v := 2) hx hb dX9_does_36 (by decide) ?_
  refine lv_iadd hx hb dX9_does_37 ?_
  refine lv_topv (v := nI (6 * d + 2)) ((nI_add _ _)) ?_
  refine lv_iload_n hx hb dX9_does_38 rfl (lv_at hl 4 rfl) ?_
  refine g_iast C0 G k15 0 rfl (vp_in_nI (by omega) (by omega)) dX9_does_39 (fun H locs f17 hf17 G => ?_)
  have k18 : f17 de = some (.inl (cy 0, 24000, .inl (X9_does2N_g2 p1 p2 gd d))) := (by have h9 := hus hf17; rw [nI_c (by omega)] at h9; exact h9)
  refine lv_aload_n hx hb dX9_does_40 rfl (lv_at hl 1 rfl) ?_
  have k19 : f17 m = some (.inr (11, [.int c_th, .int c_re, .ref v, .ref im, .ref kp, .ref pa, .ref de, .ref ide, .int c_un, .int c_hi, .ref tx, .int c_tn, .int c_fa, .int c_rf, .ref pt, .int c_ps, .int c_pl, .int c_to, .ref so, .ref mo, .ref wh, .ref pf])) := hup hf17 (hne k16 k15 (by intro q; cases q)) k16
  refine g_get C0 G k19 rfl hiX9 6 (by decide) mf_X9_23 rfl dX9_does_41 ?_
  refine lv_iload hx hb dX9_does_44 (lv_at hl 0 rfl) ?_
  refine lv_iconst (v := 3) hx hb dX9_does_46 (by decide) ?_
  refine lv_iadd hx hb dX9_does_47 ?_
  refine lv_topv (v := nI (6 * d + 3)) ((nI_add _ _)) ?_
  refine lv_iload hx hb dX9_does_48 (lv_at hl 5 rfl) ?_
  refine g_iast C0 G k18 0 rfl (vp_in_nI (by omega) (by omega)) dX9_does_50 (fun H locs f20 hf20 G => ?_)
  have k21 : f20 de = some (.inl (cy 0, 24000, .inl (X9_does2N_g3 p1 p2 p3 gd d))) := (by have h9 := hus hf20; rw [nI_c (by omega)] at h9; exact h9)
  refine lv_aload_n hx hb dX9_does_51 rfl (lv_at hl 1 rfl) ?_
  have k22 : f20 m = some (.inr (11, [.int c_th, .int c_re, .ref v, .ref im, .ref kp, .ref pa, .ref de, .ref ide, .int c_un, .int c_hi, .ref tx, .int c_tn, .int c_fa, .int c_rf, .ref pt, .int c_ps, .int c_pl, .int c_to, .ref so, .ref mo, .ref wh, .ref pf])) := hup hf20 (hne k19 k18 (by intro q; cases q)) k19
  refine g_get C0 G k22 rfl hiX9 6 (by decide) mf_X9_23 rfl dX9_does_52 ?_
  refine lv_iload hx hb dX9_does_55 (lv_at hl 0 rfl) ?_
  refine lv_iconst (v := 4) hx hb dX9_does_57 (by decide) ?_
  refine lv_iadd hx hb dX9_does_58 ?_
  refine lv_topv (v := nI (6 * d + 4)) ((nI_add _ _)) ?_
  refine lv_iload hx hb dX9_does_59 (lv_at hl 6 rfl) ?_
  refine g_iast C0 G k21 0 rfl (vp_in_nI (by omega) (by omega)) dX9_does_61 (fun H locs f23 hf23 G => ?_)
  have k24 : f23 de = some (.inl (cy 0, 24000, .inl (X9_does2N_g4 p1 p2 p3 p4 gd d))) := (by have h9 := hus hf23; rw [nI_c (by omega)] at h9; exact h9)
  refine lv_aload_n hx hb dX9_does_62 rfl (lv_at hl 1 rfl) ?_
  have k25 : f23 m = some (.inr (11, [.int c_th, .int c_re, .ref v, .ref im, .ref kp, .ref pa, .ref de, .ref ide, .int c_un, .int c_hi, .ref tx, .int c_tn, .int c_fa, .int c_rf, .ref pt, .int c_ps, .int c_pl, .int c_to, .ref so, .ref mo, .ref wh, .ref pf])) := hup hf23 (hne k22 k21 (by intro q; cases q)) k22
  refine g_get C0 G k25 rfl hiX9 6 (by decide) mf_X9_23 rfl dX9_does_63 ?_
  refine lv_iload hx hb dX9_does_66 (lv_at hl 0 rfl) ?_
  refine lv_iconst (v := 5) hx hb dX9_does_68 (by decide) ?_
  refine lv_iadd hx hb dX9_does_69 ?_
  refine lv_topv (v := nI (6 * d + 5)) ((nI_add _ _)) ?_
  refine lv_iload hx hb dX9_does_70 (lv_at hl 7 rfl) ?_
  refine g_iast C0 G k24 0 rfl (vp_in_nI (by omega) (by omega)) dX9_does_72 (fun H locs f26 hf26 G => ?_)
  have k27 : f26 de = some (.inl (cy 0, 24000, .inl (X9_does2N_g5 p1 p2 p3 p4 p5 gd d))) := (by have h9 := hus hf26; rw [nI_c (by omega)] at h9; exact h9)
  refine lv_aload_n hx hb dX9_does_73 rfl (lv_at hl 1 rfl) ?_
  have k28 : f26 m = some (.inr (11, [.int c_th, .int c_re, .ref v, .ref im, .ref kp, .ref pa, .ref de, .ref ide, .int c_un, .int c_hi, .ref tx, .int c_tn, .int c_fa, .int c_rf, .ref pt, .int c_ps, .int c_pl, .int c_to, .ref so, .ref mo, .ref wh, .ref pf])) := hup hf26 (hne k25 k24 (by intro q; cases q)) k25
  refine g_get C0 G k28 rfl hiX9 2 (by decide) mf_X9_9 rfl dX9_does_74 ?_
  refine lv_bipush (v := 23) hx hb dX9_does_77 (by decide) ?_
  refine lv_dup2_11 hx hb dX9_does_79 rfl rfl ?_
  have k29 : f26 v = some (.inl (cy 0, 6441, .inl g)) := hup hf26 (hne (hup hf23 (hne (hup hf20 (hne (hup hf17 (hne (hup hf14 (hne (hup hf11 (hne h_v h_de (by intro q; cases q)) h_v) k12 (by intro q; cases q)) (hup hf11 (hne h_v h_de (by intro q; cases q)) h_v)) k15 (by intro q; cases q)) (hup hf14 (hne (hup hf11 (hne h_v h_de (by intro q; cases q)) h_v) k12 (by intro q; cases q)) (hup hf11 (hne h_v h_de (by intro q; cases q)) h_v))) k18 (by intro q; cases q)) (hup hf17 (hne (hup hf14 (hne (hup hf11 (hne h_v h_de (by intro q; cases q)) h_v) k12 (by intro q; cases q)) (hup hf11 (hne h_v h_de (by intro q; cases q)) h_v)) k15 (by intro q; cases q)) (hup hf14 (hne (hup hf11 (hne h_v h_de (by intro q; cases q)) h_v) k12 (by intro q; cases q)) (hup hf11 (hne h_v h_de (by intro q; cases q)) h_v)))) k21 (by intro q; cases q)) (hup hf20 (hne (hup hf17 (hne (hup hf14 (hne (hup hf11 (hne h_v h_de (by intro q; cases q)) h_v) k12 (by intro q; cases q)) (hup hf11 (hne h_v h_de (by intro q; cases q)) h_v)) k15 (by intro q; cases q)) (hup hf14 (hne (hup hf11 (hne h_v h_de (by intro q; cases q)) h_v) k12 (by intro q; cases q)) (hup hf11 (hne h_v h_de (by intro q; cases q)) h_v))) k18 (by intro q; cases q)) (hup hf17 (hne (hup hf14 (hne (hup hf11 (hne h_v h_de (by intro q; cases q)) h_v) k12 (by intro q; cases q)) (hup hf11 (hne h_v h_de (by intro q; cases q)) h_v)) k15 (by intro q; cases q)) (hup hf14 (hne (hup hf11 (hne h_v h_de (by intro q; cases q)) h_v) k12 (by intro q; cases q)) (hup hf11 (hne h_v h_de (by intro q; cases q)) h_v))))) k24 (by intro q; cases q)) (hup hf23 (hne (hup hf20 (hne (hup hf17 (hne (hup hf14 (hne (hup hf11 (hne h_v h_de (by intro q; cases q)) h_v) k12 (by intro q; cases q)) (hup hf11 (hne h_v h_de (by intro q; cases q)) h_v)) k15 (by intro q; cases q)) (hup hf14 (hne (hup hf11 (hne h_v h_de (by intro q; cases q)) h_v) k12 (by intro q; cases q)) (hup hf11 (hne h_v h_de (by intro q; cases q)) h_v))) k18 (by intro q; cases q)) (hup hf17 (hne (hup hf14 (hne (hup hf11 (hne h_v h_de (by intro q; cases q)) h_v) k12 (by intro q; cases q)) (hup hf11 (hne h_v h_de (by intro q; cases q)) h_v)) k15 (by intro q; cases q)) (hup hf14 (hne (hup hf11 (hne h_v h_de (by intro q; cases q)) h_v) k12 (by intro q; cases q)) (hup hf11 (hne h_v h_de (by intro q; cases q)) h_v)))) k21 (by intro q; cases q)) (hup hf20 (hne (hup hf17 (hne (hup hf14 (hne (hup hf11 (hne h_v h_de (by intro q; cases q)) h_v) k12 (by intro q; cases q)) (hup hf11 (hne h_v h_de (by intro q; cases q)) h_v)) k15 (by intro q; cases q)) (hup hf14 (hne (hup hf11 (hne h_v h_de (by intro q; cases q)) h_v) k12 (by intro q; cases q)) (hup hf11 (hne h_v h_de (by intro q; cases q)) h_v))) k18 (by intro q; cases q)) (hup hf17 (hne (hup hf14 (hne (hup hf11 (hne h_v h_de (by intro q; cases q)) h_v) k12 (by intro q; cases q)) (hup hf11 (hne h_v h_de (by intro q; cases q)) h_v)) k15 (by intro q; cases q)) (hup hf14 (hne (hup hf11 (hne h_v h_de (by intro q; cases q)) h_v) k12 (by intro q; cases q)) (hup hf11 (hne h_v h_de (by intro q; cases q)) h_v)))))
  refine g_iald C0 G k29 0 rfl (by unfold vp_in; decide) dX9_does_80 ?_
  refine lv_topv (v := g 23) rfl ?_
  refine lv_topv (v := nI d) (h23) ?_
  refine lv_iconst (v := 1) hx hb dX9_does_81 (by decide) ?_
  refine lv_iadd hx hb dX9_does_82 ?_
  refine lv_topv (v := nI (d + 1)) ((nI_add _ _)) ?_
  refine g_iast C0 G k29 0 rfl (by unfold vp_in; decide) dX9_does_83 (fun H locs f30 hf30 G => ?_)
  have k31 : f30 v = some (.inl (cy 0, 6441, .inl (X9_does2N_g6 g d))) := hus hf30
  refine lv_iload_n hx hb dX9_does_84 rfl (lv_at hl 2 rfl) ?_
  refine lv_tableIn (off := 83) (tgt := 168) hx hb dX9_does_85 (by decide) (by decide) rfl (by decide) ?_
  refine lv_aload_n hx hb dX9_does_168 rfl (lv_at hl 1 rfl) ?_
  refine lv_iload_n hx hb dX9_does_169 rfl (lv_at hl 3 rfl) ?_
  refine lv_iload_n hx hb dX9_does_170 rfl (lv_at hl 4 rfl) ?_
  refine lv_iload hx hb dX9_does_171 (lv_at hl 5 rfl) ?_
  refine lv_iconst (v := 1) hx hb dX9_does_173 (by decide) ?_
  have J34 : ∀ (y33 : Int32) (_ : y33 = (X9_does2N_x7 p3)) (H : Heap) (locs : List Loc) (ls : Array Slot), hG D (hA f sz) f30 s9 H locs → lv_has ls 9 [(7, .int (nI (6 * d))), (0, .ref m), (1, .int 2), (2, .int p1), (3, .int (nI p2)), (4, .int p3), (5, .int p4), (6, .int p5)] → W p9 l e9 ({ frames := 4, cells := 0, slots := 0, locals := 101 } : Room) s9 m9 ([.ref m, .int 2, .int p1, .int (nI p2), .int p3, .int p4, .int p5] : List Value).toArray b9 t9 c9 H locs 0 0 (vx_MQ b9 (hQi (fun r u => r = (X9_fallsN_r11 wk) ∧ u de = some (.inl (cy 0, 24000, .inl (X9_does2N_g5 p1 p2 p3 p4 p5 gd d))) ∧ u v = some (.inl (cy 0, 6441, .inl (X9_does2N_g9 g p1 p2 p3 p4 p5 i a b2 bo s cm wk e d))) ∧ hFrL f u [de, v]) D f sz) (hPx hNo D f sz) ([.ref m, .int 2, .int p1, .int (nI p2), .int p3, .int p4, .int p5] : List Value).toArray s9 0 0 (hA f sz)) (F0 m9 182 ls [.int y33, .int (nI p2), .int p1, .ref m]) := by
    intro y33 ey33 H locs ls G hl
    subst ey33
    refine lv_iload hx hb dX9_does_182 (lv_at hl 6 rfl) ?_
    refine lv_iload hx hb dX9_does_184 (lv_at hl 7 rfl) ?_
    refine lv_iconst (v := 1) hx hb dX9_does_186 (by decide) ?_
    have J38 : ∀ (y37 : Int32) (_ : y37 = (X9_does2N_x8 p5)) (H : Heap) (locs : List Loc) (ls : Array Slot), hG D (hA f sz) f30 s9 H locs → lv_has ls 9 [(7, .int (nI (6 * d))), (0, .ref m), (1, .int 2), (2, .int p1), (3, .int (nI p2)), (4, .int p3), (5, .int p4), (6, .int p5)] → W p9 l e9 ({ frames := 4, cells := 0, slots := 0, locals := 101 } : Room) s9 m9 ([.ref m, .int 2, .int p1, .int (nI p2), .int p3, .int p4, .int p5] : List Value).toArray b9 t9 c9 H locs 0 0 (vx_MQ b9 (hQi (fun r u => r = (X9_fallsN_r11 wk) ∧ u de = some (.inl (cy 0, 24000, .inl (X9_does2N_g5 p1 p2 p3 p4 p5 gd d))) ∧ u v = some (.inl (cy 0, 6441, .inl (X9_does2N_g9 g p1 p2 p3 p4 p5 i a b2 bo s cm wk e d))) ∧ hFrL f u [de, v]) D f sz) (hPx hNo D f sz) ([.ref m, .int 2, .int p1, .int (nI p2), .int p3, .int p4, .int p5] : List Value).toArray s9 0 0 (hA f sz)) (F0 m9 195 ls [.int y37, .int p4, .int (X9_does2N_x7 p3), .int (nI p2), .int p1, .ref m]) := by
      intro y37 ey37 H locs ls G hl
      subst ey37
      have k40 : f30 m = some (.inr (11, [.int c_th, .int c_re, .ref v, .ref im, .ref kp, .ref pa, .ref de, .ref ide, .int c_un, .int c_hi, .ref tx, .int c_tn, .int c_fa, .int c_rf, .ref pt, .int c_ps, .int c_pl, .int c_to, .ref so, .ref mo, .ref wh, .ref pf])) := hup hf30 (hne k28 k29 (by intro q; cases q)) k28
      refine g_cI C0 G (g_runV C0 G (rest := []) (k_X9_fallsN hfl p1 (X9_does2N_x7 p3) p4 (X9_does2N_x8 p5) k40 k31 (by rw [X9_does2N_g6, upd_off (by omega)]; exact h4) hi (by rw [X9_does2N_g6, upd_off (by omega)]; exact h6) ha (by rw [X9_does2N_g6, upd_off (by omega)]; exact h7) hb2 (by rw [X9_does2N_g6, upd_off (by omega)]; exact h9) hbo (by rw [X9_does2N_g6, upd_off (by omega)]; exact h22) hs1 hs (by rw [X9_does2N_g6, upd_off (by omega)]; exact hcm) hc (by rw [X9_does2N_g6, upd_off (by omega)]; exact hwk) hwk1 (by rw [X9_does2N_g6, upd_off (by omega)]; exact h1) he hie (fun q => by have e9 : (X9_does2N_g6 g d) 14 = g 14 := (by rw [X9_does2N_g6, upd_off (by omega)]); rw [e9]; exact hrr q) (by unfold X9_next_r1 X9_next_x0 X9_lowest_r0; rw [((by rw [X9_does2N_g6, upd_off (by omega)]) : (X9_does2N_g6 g d) 8 = g 8), ((by rw [X9_does2N_g6, upd_off (by omega)]) : (X9_does2N_g6 g d) (69 + 6 * (11 * i + 0) + 4) = g (69 + 6 * (11 * i + 0) + 4)), ((by rw [X9_does2N_g6, upd_off (by omega)]) : (X9_does2N_g6 g d) (69 + 6 * (11 * i + 1) + 4) = g (69 + 6 * (11 * i + 1) + 4)), ((by rw [X9_does2N_g6, upd_off (by omega)]) : (X9_does2N_g6 g d) (69 + 6 * (11 * i + 2) + 4) = g (69 + 6 * (11 * i + 2) + 4)), ((by rw [X9_does2N_g6, upd_off (by omega)]) : (X9_does2N_g6 g d) (69 + 6 * (11 * i + 3) + 4) = g (69 + 6 * (11 * i + 3) + 4)), ((by rw [X9_does2N_g6, upd_off (by omega)]) : (X9_does2N_g6 g d) (69 + 6 * (11 * i + 4) + 4) = g (69 + 6 * (11 * i + 4) + 4)), ((by rw [X9_does2N_g6, upd_off (by omega)]) : (X9_does2N_g6 g d) (69 + 6 * (11 * i + 5) + 4) = g (69 + 6 * (11 * i + 5) + 4)), ((by rw [X9_does2N_g6, upd_off (by omega)]) : (X9_does2N_g6 g d) (69 + 6 * (11 * i + 6) + 4) = g (69 + 6 * (11 * i + 6) + 4)), ((by rw [X9_does2N_g6, upd_off (by omega)]) : (X9_does2N_g6 g d) (69 + 6 * (11 * i + 7) + 4) = g (69 + 6 * (11 * i + 7) + 4)), ((by rw [X9_does2N_g6, upd_off (by omega)]) : (X9_does2N_g6 g d) (69 + 6 * (11 * i + 8) + 4) = g (69 + 6 * (11 * i + 8) + 4)), ((by rw [X9_does2N_g6, upd_off (by omega)]) : (X9_does2N_g6 g d) (69 + 6 * (11 * i + 9) + 4) = g (69 + 6 * (11 * i + 9) + 4)), ((by rw [X9_does2N_g6, upd_off (by omega)]) : (X9_does2N_g6 g d) (69 + 6 * (11 * i + 10) + 4) = g (69 + 6 * (11 * i + 10) + 4))]; exact hn) hk (by repeat (first | exact Or.inl rfl | exact Or.inr rfl | assumption | split | unfold X9_does2N_x7 | unfold X9_does2N_x8)) (by repeat (first | exact Or.inl rfl | exact Or.inr rfl | assumption | split | unfold X9_does2N_x7 | unfold X9_does2N_x8))) k40 rfl hY_X9_falls mm_X9_129 mi_X9_falls ml_X9_falls ⟨(Nat.le_of_ble_eq_true rfl), (Nat.le_of_ble_eq_true rfl)⟩ rfl hl.1 rfl (Nat.le_of_ble_eq_true rfl) dX9_does_195 ⟨(Nat.le_of_ble_eq_true rfl), (Nat.le_of_ble_eq_true rfl)⟩) (kx_no rfl) (fun r43 u42 H locs hp41 G => ?_)
      obtain ⟨rfl, k44, fr45⟩ := hp41
      have k46 : u42 de = some (.inl (cy 0, 24000, .inl (X9_does2N_g5 p1 p2 p3 p4 p5 gd d))) := fr45 _ _ (by simp only [List.mem_cons, List.not_mem_nil, or_false]; intro q; exact (hne (hup hf30 (hne k27 k29 (by intro q; cases q)) k27) k31 (by intro q; cases q)) q) (hup hf30 (hne k27 k29 (by intro q; cases q)) k27)
      exact g_iret C0 G hr dX9_does_198 (Nat.le_of_ble_eq_true rfl) (Nat.le_of_ble_eq_true rfl) (by exact ⟨rfl, k46, (by rw [(by rw [X9_does2N_g9] : (X9_does2N_g9 g p1 p2 p3 p4 p5 i a b2 bo s cm wk e d) = (X9_fallsN_g12 (X9_does2N_g6 g d) p1 p2 (X9_does2N_x7 p3) p4 (X9_does2N_x8 p5) i a b2 bo s cm wk e))]; exact k44), (fun a9 e9 h7 h8 => fr45 _ _ (fun q => h7 (by simp only [List.mem_cons, List.not_mem_nil, or_false] at q ⊢; first | exact q | (rcases q with q <;> simp [q]) | omega)) (hup hf30 (fun q => h7 (by rw [q]; simp)) (hup hf26 (fun q => h7 (by rw [q]; simp)) (hup hf23 (fun q => h7 (by rw [q]; simp)) (hup hf20 (fun q => h7 (by rw [q]; simp)) (hup hf17 (fun q => h7 (by rw [q]; simp)) (hup hf14 (fun q => h7 (by rw [q]; simp)) (hup hf11 (fun q => h7 (by rw [q]; simp)) (h8)))))))))⟩)
    refine lv_icmp_ne (tgt := 194) hx hb dX9_does_187 (by decide) (fun c36 => ?_) (fun c36 => ?_)
    · refine lv_iconst (v := 0) hx hb dX9_does_194 (by decide) ?_
      exact J38 0 (by rw [X9_does2N_x8, if_neg c36]) _ _ _ G (lv_sub hl [0, 1, 2, 3, 4, 5, 6, 7] rfl)
    · refine lv_iconst (v := 1) hx hb dX9_does_190 (by decide) ?_
      refine lv_goto (tgt := 195) hx hb dX9_does_191 (by decide) ?_
      exact J38 1 (by rw [X9_does2N_x8, if_pos c36]) _ _ _ G (lv_sub hl [0, 1, 2, 3, 4, 5, 6, 7] rfl)
  refine lv_icmp_ne (tgt := 181) hx hb dX9_does_174 (by decide) (fun c32 => ?_) (fun c32 => ?_)
  · refine lv_iconst (v := 0) hx hb dX9_does_181 (by decide) ?_
    exact J34 0 (by rw [X9_does2N_x7, if_neg c32]) _ _ _ G (lv_sub hl [0, 1, 2, 3, 4, 5, 6, 7] rfl)
  · refine lv_iconst (v := 1) hx hb dX9_does_177 (by decide) ?_
    refine lv_goto (tgt := 182) hx hb dX9_does_178 (by decide) ?_
    exact J34 1 (by rw [X9_does2N_x7, if_pos c32]) _ _ _ G (lv_sub hl [0, 1, 2, 3, 4, 5, 6, 7] rfl)
def X9_does3N_g0 (gd : Nat → Int32) (d : Nat) : Nat → Int32 := upd gd (6 * d) 3
def X9_does3N_g1 (p1 : Int32) (gd : Nat → Int32) (d : Nat) : Nat → Int32 := upd (X9_does3N_g0 gd d) (6 * d + 1) p1
def X9_does3N_g2 (p1 : Int32) (p2 : Int32) (gd : Nat → Int32) (d : Nat) : Nat → Int32 := upd (X9_does3N_g1 p1 gd d) (6 * d + 2) p2
def X9_does3N_g3 (p1 : Int32) (p2 : Int32) (p3 : Int32) (gd : Nat → Int32) (d : Nat) : Nat → Int32 := upd (X9_does3N_g2 p1 p2 gd d) (6 * d + 3) p3
def X9_does3N_g4 (p1 : Int32) (p2 : Int32) (p3 : Int32) (p4 : Int32) (gd : Nat → Int32) (d : Nat) : Nat → Int32 := upd (X9_does3N_g3 p1 p2 p3 gd d) (6 * d + 4) p4
def X9_does3N_g5 (p1 : Int32) (p2 : Int32) (p3 : Int32) (p4 : Int32) (p5 : Int32) (gd : Nat → Int32) (d : Nat) : Nat → Int32 := upd (X9_does3N_g4 p1 p2 p3 p4 gd d) (6 * d + 5) p5
def X9_does3N_g6 (g : Nat → Int32) (d : Nat) : Nat → Int32 := upd g 23 (nI (d + 1))
def X9_does3N_x7 (p1 : Int32) : Int32 := if p1 = 1 then 1 else 0
def X9_does3N_x8 (p2 : Int32) : Int32 := if p2 = 1 then 1 else 0
def X9_does3N_g9 (g : Nat → Int32) (p1 : Int32) (p2 : Int32) (i : Nat) (a : Nat) (b2 : Nat) (s : Nat) (e : Nat) (d : Nat) : Nat → Int32 := (X9_retiresN_g2 (X9_does3N_g6 g d) (X9_does3N_x7 p1) (X9_does3N_x8 p2) i a b2 s e)
set_option maxRecDepth 100000 in
theorem k_X9_does3N {l : Launch} (hfl : l.stackTraces = false) {D : va_G} {cy : Nat → ClassId} {f : Hf} {sz : Nat} {m : Nat} {v : Nat} {im : Nat} {kp : Nat} {pa : Nat} {de : Nat} {ide : Nat} {tx : Nat} {pt : Nat} {so : Nat} {mo : Nat} {wh : Nat} {pf : Nat} {c_th : Int32} {c_re : Int32} {c_un : Int32} {c_hi : Int32} {c_tn : Int32} {c_fa : Int32} {c_rf : Int32} {c_ps : Int32} {c_pl : Int32} {c_to : Int32} {g : Nat → Int32} (p1 : Int32) (p2 : Int32) (p3 : Int32) (p4 : Int32) (p5 : Int32) {gd : Nat → Int32} {i : Nat} {a : Nat} {b2 : Nat} {s : Nat} {e : Nat} {d : Nat} (h_m : f m = some (.inr (11, [.int c_th, .int c_re, .ref v, .ref im, .ref kp, .ref pa, .ref de, .ref ide, .int c_un, .int c_hi, .ref tx, .int c_tn, .int c_fa, .int c_rf, .ref pt, .int c_ps, .int c_pl, .int c_to, .ref so, .ref mo, .ref wh, .ref pf]))) (h_v : f v = some (.inl (cy 0, 6441, .inl g))) (h_de : f de = some (.inl (cy 0, 24000, .inl gd))) (h4 : g 4 = nI i) (hi : i < 4) (h6 : g 6 = nI a) (ha : a < 11) (h7 : g 7 = nI b2) (hb2 : b2 < 11) (h22 : g 22 = nI s) (hs1 : 1 ≤ s) (hs : s < 699) (h1 : g 1 = nI e) (he : e = 1 ∨ e = 2) (hie : i + 1 ≤ 2 * e) (hrr : i + 1 = 2 * e → e = 2 ∨ ¬ (g 14).toInt64 = 0) (hn : X9_next_r1 g i = -1) (h23 : g 23 = nI d) (hd : d < 4000) : hMet l yX9_does cX9_does 9 (some .int) { frames := 4, cells := 0, slots := 0, locals := 94 } D (hTy cy) f sz [.ref m, .int 3, .int p1, .int p2, .int p3, .int p4, .int p5] (hQi (fun r u => r = (-1) ∧ u de = some (.inl (cy 0, 24000, .inl (X9_does3N_g5 p1 p2 p3 p4 p5 gd d))) ∧ u v = some (.inl (cy 0, 6441, .inl (X9_does3N_g9 g p1 p2 i a b2 s e d))) ∧ hFrL f u [de, v]) D f sz) hNo := by
  refine h_enter (by decide) hfl (Nat.le_of_ble_eq_true rfl) ?_
  intro p9 e9 s9 m9 b9 t9 c9 hsz C0 hr hnm G ls hl
  have hx := C0.1.1
  have hb := C0.1.2.1
  have hl : lv_has ls 9 [(0, .ref m), (1, .int 3), (2, .int p1), (3, .int p2), (4, .int p3), (5, .int p4), (6, .int p5)] := hl
  refine lv_bipush (v := 6) hx hb dX9_does_0 (by decide) ?_
  refine lv_aload_n hx hb dX9_does_2 rfl (lv_at hl 0 rfl) ?_
  refine g_get C0 G h_m rfl hiX9 2 (by decide) mf_X9_9 rfl dX9_does_3 ?_
  refine lv_bipush (v := 23) hx hb dX9_does_6 (by decide) ?_
  refine g_iald C0 G h_v 0 rfl (by unfold vp_in; decide) dX9_does_8 ?_
  refine lv_topv (v := g 23) rfl ?_
  refine lv_topv (v := nI d) (h23) ?_
  refine lv_imul hx hb dX9_does_9 ?_
  refine lv_topv (v := nI (6 * d)) ((pk_mul _ _)) ?_
  refine lv_istore (lv' := [(7, .int (nI (6 * d))), (0, .ref m), (1, .int 3), (2, .int p1), (3, .int p2), (4, .int p3), (5, .int p4), (6, .int p5)]) hx hb dX9_does_10 hl (by decide) rfl (fun ls hl => ?_)
  refine lv_aload_n hx hb dX9_does_12 rfl (lv_at hl 1 rfl) ?_
  refine g_get C0 G h_m rfl hiX9 6 (by decide) mf_X9_23 rfl dX9_does_13 ?_
  refine lv_iload hx hb dX9_does_16 (lv_at hl 0 rfl) ?_
  refine lv_iload_n hx hb dX9_does_18 rfl (lv_at hl 2 rfl) ?_
  refine g_iast C0 G h_de 0 rfl (vp_in_nI (by omega) (by omega)) dX9_does_19 (fun H locs f11 hf11 G => ?_)
  have k12 : f11 de = some (.inl (cy 0, 24000, .inl (X9_does3N_g0 gd d))) := (by have h9 := hus hf11; rw [nI_c (by omega)] at h9; exact h9)
  refine lv_aload_n hx hb dX9_does_20 rfl (lv_at hl 1 rfl) ?_
  have k13 : f11 m = some (.inr (11, [.int c_th, .int c_re, .ref v, .ref im, .ref kp, .ref pa, .ref de, .ref ide, .int c_un, .int c_hi, .ref tx, .int c_tn, .int c_fa, .int c_rf, .ref pt, .int c_ps, .int c_pl, .int c_to, .ref so, .ref mo, .ref wh, .ref pf])) := hup hf11 (hne h_m h_de (by intro q; cases q)) h_m
  refine g_get C0 G k13 rfl hiX9 6 (by decide) mf_X9_23 rfl dX9_does_21 ?_
  refine lv_iload hx hb dX9_does_24 (lv_at hl 0 rfl) ?_
  refine lv_iconst (v := 1) hx hb dX9_does_26 (by decide) ?_
  refine lv_iadd hx hb dX9_does_27 ?_
  refine lv_topv (v := nI (6 * d + 1)) ((nI_add _ _)) ?_
  refine lv_iload_n hx hb dX9_does_28 rfl (lv_at hl 3 rfl) ?_
  refine g_iast C0 G k12 0 rfl (vp_in_nI (by omega) (by omega)) dX9_does_29 (fun H locs f14 hf14 G => ?_)
  have k15 : f14 de = some (.inl (cy 0, 24000, .inl (X9_does3N_g1 p1 gd d))) := (by have h9 := hus hf14; rw [nI_c (by omega)] at h9; exact h9)
  refine lv_aload_n hx hb dX9_does_30 rfl (lv_at hl 1 rfl) ?_
  have k16 : f14 m = some (.inr (11, [.int c_th, .int c_re, .ref v, .ref im, .ref kp, .ref pa, .ref de, .ref ide, .int c_un, .int c_hi, .ref tx, .int c_tn, .int c_fa, .int c_rf, .ref pt, .int c_ps, .int c_pl, .int c_to, .ref so, .ref mo, .ref wh, .ref pf])) := hup hf14 (hne k13 k12 (by intro q; cases q)) k13
  refine g_get C0 G k16 rfl hiX9 6 (by decide) mf_X9_23 rfl dX9_does_31 ?_
  refine lv_iload hx hb dX9_does_34 (lv_at hl 0 rfl) ?_
  refine lv_iconst (v := 2) hx hb dX9_does_36 (by decide) ?_
  refine lv_iadd hx hb dX9_does_37 ?_
  refine lv_topv (v := nI (6 * d + 2)) ((nI_add _ _)) ?_
  refine lv_iload_n hx hb dX9_does_38 rfl (lv_at hl 4 rfl) ?_
  refine g_iast C0 G k15 0 rfl (vp_in_nI (by omega) (by omega)) dX9_does_39 (fun H locs f17 hf17 G => ?_)
  have k18 : f17 de = some (.inl (cy 0, 24000, .inl (X9_does3N_g2 p1 p2 gd d))) := (by have h9 := hus hf17; rw [nI_c (by omega)] at h9; exact h9)
  refine lv_aload_n hx hb dX9_does_40 rfl (lv_at hl 1 rfl) ?_
  have k19 : f17 m = some (.inr (11, [.int c_th, .int c_re, .ref v, .ref im, .ref kp, .ref pa, .ref de, .ref ide, .int c_un, .int c_hi, .ref tx, .int c_tn, .int c_fa, .int c_rf, .ref pt, .int c_ps, .int c_pl, .int c_to, .ref so, .ref mo, .ref wh, .ref pf])) := hup hf17 (hne k16 k15 (by intro q; cases q)) k16
  refine g_get C0 G k19 rfl hiX9 6 (by decide) mf_X9_23 rfl dX9_does_41 ?_
  refine lv_iload hx hb dX9_does_44 (lv_at hl 0 rfl) ?_
  refine lv_iconst (v := 3) hx hb dX9_does_46 (by decide) ?_
  refine lv_iadd hx hb dX9_does_47 ?_
  refine lv_topv (v := nI (6 * d + 3)) ((nI_add _ _)) ?_
  refine lv_iload hx hb dX9_does_48 (lv_at hl 5 rfl) ?_
  refine g_iast C0 G k18 0 rfl (vp_in_nI (by omega) (by omega)) dX9_does_50 (fun H locs f20 hf20 G => ?_)
  have k21 : f20 de = some (.inl (cy 0, 24000, .inl (X9_does3N_g3 p1 p2 p3 gd d))) := (by have h9 := hus hf20; rw [nI_c (by omega)] at h9; exact h9)
  refine lv_aload_n hx hb dX9_does_51 rfl (lv_at hl 1 rfl) ?_
  have k22 : f20 m = some (.inr (11, [.int c_th, .int c_re, .ref v, .ref im, .ref kp, .ref pa, .ref de, .ref ide, .int c_un, .int c_hi, .ref tx, .int c_tn, .int c_fa, .int c_rf, .ref pt, .int c_ps, .int c_pl, .int c_to, .ref so, .ref mo, .ref wh, .ref pf])) := hup hf20 (hne k19 k18 (by intro q; cases q)) k19
  refine g_get C0 G k22 rfl hiX9 6 (by decide) mf_X9_23 rfl dX9_does_52 ?_
  refine lv_iload hx hb dX9_does_55 (lv_at hl 0 rfl) ?_
  refine lv_iconst (v := 4) hx hb dX9_does_57 (by decide) ?_
  refine lv_iadd hx hb dX9_does_58 ?_
  refine lv_topv (v := nI (6 * d + 4)) ((nI_add _ _)) ?_
  refine lv_iload hx hb dX9_does_59 (lv_at hl 6 rfl) ?_
  refine g_iast C0 G k21 0 rfl (vp_in_nI (by omega) (by omega)) dX9_does_61 (fun H locs f23 hf23 G => ?_)
  have k24 : f23 de = some (.inl (cy 0, 24000, .inl (X9_does3N_g4 p1 p2 p3 p4 gd d))) := (by have h9 := hus hf23; rw [nI_c (by omega)] at h9; exact h9)
  refine lv_aload_n hx hb dX9_does_62 rfl (lv_at hl 1 rfl) ?_
  have k25 : f23 m = some (.inr (11, [.int c_th, .int c_re, .ref v, .ref im, .ref kp, .ref pa, .ref de, .ref ide, .int c_un, .int c_hi, .ref tx, .int c_tn, .int c_fa, .int c_rf, .ref pt, .int c_ps, .int c_pl, .int c_to, .ref so, .ref mo, .ref wh, .ref pf])) := hup hf23 (hne k22 k21 (by intro q; cases q)) k22
  refine g_get C0 G k25 rfl hiX9 6 (by decide) mf_X9_23 rfl dX9_does_63 ?_
  refine lv_iload hx hb dX9_does_66 (lv_at hl 0 rfl) ?_
  refine lv_iconst (v := 5) hx hb dX9_does_68 (by decide) ?_
  refine lv_iadd hx hb dX9_does_69 ?_
  refine lv_topv (v := nI (6 * d + 5)) ((nI_add _ _)) ?_
  refine lv_iload hx hb dX9_does_70 (lv_at hl 7 rfl) ?_
  refine g_iast C0 G k24 0 rfl (vp_in_nI (by omega) (by omega)) dX9_does_72 (fun H locs f26 hf26 G => ?_)
  have k27 : f26 de = some (.inl (cy 0, 24000, .inl (X9_does3N_g5 p1 p2 p3 p4 p5 gd d))) := (by have h9 := hus hf26; rw [nI_c (by omega)] at h9; exact h9)
  refine lv_aload_n hx hb dX9_does_73 rfl (lv_at hl 1 rfl) ?_
  have k28 : f26 m = some (.inr (11, [.int c_th, .int c_re, .ref v, .ref im, .ref kp, .ref pa, .ref de, .ref ide, .int c_un, .int c_hi, .ref tx, .int c_tn, .int c_fa, .int c_rf, .ref pt, .int c_ps, .int c_pl, .int c_to, .ref so, .ref mo, .ref wh, .ref pf])) := hup hf26 (hne k25 k24 (by intro q; cases q)) k25
  refine g_get C0 G k28 rfl hiX9 2 (by decide) mf_X9_9 rfl dX9_does_74 ?_
  refine lv_bipush (v := 23) hx hb dX9_does_77 (by decide) ?_
  refine lv_dup2_11 hx hb dX9_does_79 rfl rfl ?_
  have k29 : f26 v = some (.inl (cy 0, 6441, .inl g)) := hup hf26 (hne (hup hf23 (hne (hup hf20 (hne (hup hf17 (hne (hup hf14 (hne (hup hf11 (hne h_v h_de (by intro q; cases q)) h_v) k12 (by intro q; cases q)) (hup hf11 (hne h_v h_de (by intro q; cases q)) h_v)) k15 (by intro q; cases q)) (hup hf14 (hne (hup hf11 (hne h_v h_de (by intro q; cases q)) h_v) k12 (by intro q; cases q)) (hup hf11 (hne h_v h_de (by intro q; cases q)) h_v))) k18 (by intro q; cases q)) (hup hf17 (hne (hup hf14 (hne (hup hf11 (hne h_v h_de (by intro q; cases q)) h_v) k12 (by intro q; cases q)) (hup hf11 (hne h_v h_de (by intro q; cases q)) h_v)) k15 (by intro q; cases q)) (hup hf14 (hne (hup hf11 (hne h_v h_de (by intro q; cases q)) h_v) k12 (by intro q; cases q)) (hup hf11 (hne h_v h_de (by intro q; cases q)) h_v)))) k21 (by intro q; cases q)) (hup hf20 (hne (hup hf17 (hne (hup hf14 (hne (hup hf11 (hne h_v h_de (by intro q; cases q)) h_v) k12 (by intro q; cases q)) (hup hf11 (hne h_v h_de (by intro q; cases q)) h_v)) k15 (by intro q; cases q)) (hup hf14 (hne (hup hf11 (hne h_v h_de (by intro q; cases q)) h_v) k12 (by intro q; cases q)) (hup hf11 (hne h_v h_de (by intro q; cases q)) h_v))) k18 (by intro q; cases q)) (hup hf17 (hne (hup hf14 (hne (hup hf11 (hne h_v h_de (by intro q; cases q)) h_v) k12 (by intro q; cases q)) (hup hf11 (hne h_v h_de (by intro q; cases q)) h_v)) k15 (by intro q; cases q)) (hup hf14 (hne (hup hf11 (hne h_v h_de (by intro q; cases q)) h_v) k12 (by intro q; cases q)) (hup hf11 (hne h_v h_de (by intro q; cases q)) h_v))))) k24 (by intro q; cases q)) (hup hf23 (hne (hup hf20 (hne (hup hf17 (hne (hup hf14 (hne (hup hf11 (hne h_v h_de (by intro q; cases q)) h_v) k12 (by intro q; cases q)) (hup hf11 (hne h_v h_de (by intro q; cases q)) h_v)) k15 (by intro q; cases q)) (hup hf14 (hne (hup hf11 (hne h_v h_de (by intro q; cases q)) h_v) k12 (by intro q; cases q)) (hup hf11 (hne h_v h_de (by intro q; cases q)) h_v))) k18 (by intro q; cases q)) (hup hf17 (hne (hup hf14 (hne (hup hf11 (hne h_v h_de (by intro q; cases q)) h_v) k12 (by intro q; cases q)) (hup hf11 (hne h_v h_de (by intro q; cases q)) h_v)) k15 (by intro q; cases q)) (hup hf14 (hne (hup hf11 (hne h_v h_de (by intro q; cases q)) h_v) k12 (by intro q; cases q)) (hup hf11 (hne h_v h_de (by intro q; cases q)) h_v)))) k21 (by intro q; cases q)) (hup hf20 (hne (hup hf17 (hne (hup hf14 (hne (hup hf11 (hne h_v h_de (by intro q; cases q)) h_v) k12 (by intro q; cases q)) (hup hf11 (hne h_v h_de (by intro q; cases q)) h_v)) k15 (by intro q; cases q)) (hup hf14 (hne (hup hf11 (hne h_v h_de (by intro q; cases q)) h_v) k12 (by intro q; cases q)) (hup hf11 (hne h_v h_de (by intro q; cases q)) h_v))) k18 (by intro q; cases q)) (hup hf17 (hne (hup hf14 (hne (hup hf11 (hne h_v h_de (by intro q; cases q)) h_v) k12 (by intro q; cases q)) (hup hf11 (hne h_v h_de (by intro q; cases q)) h_v)) k15 (by intro q; cases q)) (hup hf14 (hne (hup hf11 (hne h_v h_de (by intro q; cases q)) h_v) k12 (by intro q; cases q)) (hup hf11 (hne h_v h_de (by intro q; cases q)) h_v)))))
  refine g_iald C0 G k29 0 rfl (by unfold vp_in; decide) dX9_does_80 ?_
  refine lv_topv (v := g 23) rfl ?_
  refine lv_topv (v := nI d) (h23) ?_
  refine lv_iconst (v := 1) hx hb dX9_does_81 (by decide) ?_
  refine lv_iadd hx hb dX9_does_82 ?_
  refine lv_topv (v := nI (d + 1)) ((nI_add _ _)) ?_
  refine g_iast C0 G k29 0 rfl (by unfold vp_in; decide) dX9_does_83 (fun H locs f30 hf30 G => ?_)
  have k31 : f30 v = some (.inl (cy 0, 6441, .inl (X9_does3N_g6 g d))) := hus hf30
  refine lv_iload_n hx hb dX9_does_84 rfl (lv_at hl 2 rfl) ?_
  refine lv_tableIn (off := 114) (tgt := 199) hx hb dX9_does_85 (by decide) (by decide) rfl (by decide) ?_
  refine lv_aload_n hx hb dX9_does_199 rfl (lv_at hl 1 rfl) ?_
  refine lv_iload_n hx hb dX9_does_200 rfl (lv_at hl 3 rfl) ?_
  refine lv_iconst (v := 1) hx hb dX9_does_201 (by decide) ?_
  have J34 : ∀ (y33 : Int32) (_ : y33 = (X9_does3N_x7 p1)) (H : Heap) (locs : List Loc) (ls : Array Slot), hG D (hA f sz) f30 s9 H locs → lv_has ls 9 [(7, .int (nI (6 * d))), (0, .ref m), (1, .int 3), (2, .int p1), (3, .int p2), (4, .int p3), (5, .int p4), (6, .int p5)] → W p9 l e9 ({ frames := 4, cells := 0, slots := 0, locals := 94 } : Room) s9 m9 ([.ref m, .int 3, .int p1, .int p2, .int p3, .int p4, .int p5] : List Value).toArray b9 t9 c9 H locs 0 0 (vx_MQ b9 (hQi (fun r u => r = (-1) ∧ u de = some (.inl (cy 0, 24000, .inl (X9_does3N_g5 p1 p2 p3 p4 p5 gd d))) ∧ u v = some (.inl (cy 0, 6441, .inl (X9_does3N_g9 g p1 p2 i a b2 s e d))) ∧ hFrL f u [de, v]) D f sz) (hPx hNo D f sz) ([.ref m, .int 3, .int p1, .int p2, .int p3, .int p4, .int p5] : List Value).toArray s9 0 0 (hA f sz)) (F0 m9 210 ls [.int y33, .ref m]) := by
    intro y33 ey33 H locs ls G hl
    subst ey33
    refine lv_iload_n hx hb dX9_does_210 rfl (lv_at hl 4 rfl) ?_
    refine lv_iconst (v := 1) hx hb dX9_does_211 (by decide) ?_
    have J38 : ∀ (y37 : Int32) (_ : y37 = (X9_does3N_x8 p2)) (H : Heap) (locs : List Loc) (ls : Array Slot), hG D (hA f sz) f30 s9 H locs → lv_has ls 9 [(7, .int (nI (6 * d))), (0, .ref m), (1, .int 3), (2, .int p1), (3, .int p2), (4, .int p3), (5, .int p4), (6, .int p5)] → W p9 l e9 ({ frames := 4, cells := 0, slots := 0, locals := 94 } : Room) s9 m9 ([.ref m, .int 3, .int p1, .int p2, .int p3, .int p4, .int p5] : List Value).toArray b9 t9 c9 H locs 0 0 (vx_MQ b9 (hQi (fun r u => r = (-1) ∧ u de = some (.inl (cy 0, 24000, .inl (X9_does3N_g5 p1 p2 p3 p4 p5 gd d))) ∧ u v = some (.inl (cy 0, 6441, .inl (X9_does3N_g9 g p1 p2 i a b2 s e d))) ∧ hFrL f u [de, v]) D f sz) (hPx hNo D f sz) ([.ref m, .int 3, .int p1, .int p2, .int p3, .int p4, .int p5] : List Value).toArray s9 0 0 (hA f sz)) (F0 m9 220 ls [.int y37, .int (X9_does3N_x7 p1), .ref m]) := by
      intro y37 ey37 H locs ls G hl
      subst ey37
      have k40 : f30 m = some (.inr (11, [.int c_th, .int c_re, .ref v, .ref im, .ref kp, .ref pa, .ref de, .ref ide, .int c_un, .int c_hi, .ref tx, .int c_tn, .int c_fa, .int c_rf, .ref pt, .int c_ps, .int c_pl, .int c_to, .ref so, .ref mo, .ref wh, .ref pf])) := hup hf30 (hne k28 k29 (by intro q; cases q)) k28
      refine g_cI C0 G (g_runV C0 G (rest := []) (k_X9_retiresN hfl (X9_does3N_x7 p1) (X9_does3N_x8 p2) k40 k31 (by rw [X9_does3N_g6, upd_off (by omega)]; exact h4) hi (by rw [X9_does3N_g6, upd_off (by omega)]; exact h6) ha (by rw [X9_does3N_g6, upd_off (by omega)]; exact h7) hb2 (by rw [X9_does3N_g6, upd_off (by omega)]; exact h22) hs1 hs (by rw [X9_does3N_g6, upd_off (by omega)]; exact h1) he hie (fun q => by have e9 : (X9_does3N_g6 g d) 14 = g 14 := (by rw [X9_does3N_g6, upd_off (by omega)]); rw [e9]; exact hrr q) (by unfold X9_next_r1 X9_next_x0 X9_lowest_r0; rw [((by rw [X9_does3N_g6, upd_off (by omega)]) : (X9_does3N_g6 g d) 8 = g 8), ((by rw [X9_does3N_g6, upd_off (by omega)]) : (X9_does3N_g6 g d) (69 + 6 * (11 * i + 0) + 4) = g (69 + 6 * (11 * i + 0) + 4)), ((by rw [X9_does3N_g6, upd_off (by omega)]) : (X9_does3N_g6 g d) (69 + 6 * (11 * i + 1) + 4) = g (69 + 6 * (11 * i + 1) + 4)), ((by rw [X9_does3N_g6, upd_off (by omega)]) : (X9_does3N_g6 g d) (69 + 6 * (11 * i + 2) + 4) = g (69 + 6 * (11 * i + 2) + 4)), ((by rw [X9_does3N_g6, upd_off (by omega)]) : (X9_does3N_g6 g d) (69 + 6 * (11 * i + 3) + 4) = g (69 + 6 * (11 * i + 3) + 4)), ((by rw [X9_does3N_g6, upd_off (by omega)]) : (X9_does3N_g6 g d) (69 + 6 * (11 * i + 4) + 4) = g (69 + 6 * (11 * i + 4) + 4)), ((by rw [X9_does3N_g6, upd_off (by omega)]) : (X9_does3N_g6 g d) (69 + 6 * (11 * i + 5) + 4) = g (69 + 6 * (11 * i + 5) + 4)), ((by rw [X9_does3N_g6, upd_off (by omega)]) : (X9_does3N_g6 g d) (69 + 6 * (11 * i + 6) + 4) = g (69 + 6 * (11 * i + 6) + 4)), ((by rw [X9_does3N_g6, upd_off (by omega)]) : (X9_does3N_g6 g d) (69 + 6 * (11 * i + 7) + 4) = g (69 + 6 * (11 * i + 7) + 4)), ((by rw [X9_does3N_g6, upd_off (by omega)]) : (X9_does3N_g6 g d) (69 + 6 * (11 * i + 8) + 4) = g (69 + 6 * (11 * i + 8) + 4)), ((by rw [X9_does3N_g6, upd_off (by omega)]) : (X9_does3N_g6 g d) (69 + 6 * (11 * i + 9) + 4) = g (69 + 6 * (11 * i + 9) + 4)), ((by rw [X9_does3N_g6, upd_off (by omega)]) : (X9_does3N_g6 g d) (69 + 6 * (11 * i + 10) + 4) = g (69 + 6 * (11 * i + 10) + 4))]; exact hn) (by repeat (first | exact Or.inl rfl | exact Or.inr rfl | assumption | split | unfold X9_does3N_x7 | unfold X9_does3N_x8)) (by repeat (first | exact Or.inl rfl | exact Or.inr rfl | assumption | split | unfold X9_does3N_x7 | unfold X9_does3N_x8))) k40 rfl hY_X9_retires mm_X9_132 mi_X9_retires ml_X9_retires ⟨(Nat.le_of_ble_eq_true rfl), (Nat.le_of_ble_eq_true rfl)⟩ rfl hl.1 rfl (Nat.le_of_ble_eq_true rfl) dX9_does_220 ⟨(Nat.le_of_ble_eq_true rfl), (Nat.le_of_ble_eq_true rfl)⟩) (kx_no rfl) (fun r43 u42 H locs hp41 G => ?_)
      obtain ⟨rfl, k44, fr45⟩ := hp41
      have k46 : u42 de = some (.inl (cy 0, 24000, .inl (X9_does3N_g5 p1 p2 p3 p4 p5 gd d))) := fr45 _ _ (by simp only [List.mem_cons, List.not_mem_nil, or_false]; intro q; exact (hne (hup hf30 (hne k27 k29 (by intro q; cases q)) k27) k31 (by intro q; cases q)) q) (hup hf30 (hne k27 k29 (by intro q; cases q)) k27)
      exact g_iret C0 G hr dX9_does_223 (Nat.le_of_ble_eq_true rfl) (Nat.le_of_ble_eq_true rfl) (by exact ⟨rfl, k46, (by rw [(by rw [X9_does3N_g9] : (X9_does3N_g9 g p1 p2 i a b2 s e d) = (X9_retiresN_g2 (X9_does3N_g6 g d) (X9_does3N_x7 p1) (X9_does3N_x8 p2) i a b2 s e))]; exact k44), (fun a9 e9 h7 h8 => fr45 _ _ (fun q => h7 (by simp only [List.mem_cons, List.not_mem_nil, or_false] at q ⊢; first | exact q | (rcases q with q <;> simp [q]) | omega)) (hup hf30 (fun q => h7 (by rw [q]; simp)) (hup hf26 (fun q => h7 (by rw [q]; simp)) (hup hf23 (fun q => h7 (by rw [q]; simp)) (hup hf20 (fun q => h7 (by rw [q]; simp)) (hup hf17 (fun q => h7 (by rw [q]; simp)) (hup hf14 (fun q => h7 (by rw [q]; simp)) (hup hf11 (fun q => h7 (by rw [q]; simp)) (h8)))))))))⟩)
    refine lv_icmp_ne (tgt := 219) hx hb dX9_does_212 (by decide) (fun c36 => ?_) (fun c36 => ?_)
    · refine lv_iconst (v := 0) hx hb dX9_does_219 (by decide) ?_
      exact J38 0 (by rw [X9_does3N_x8, if_neg c36]) _ _ _ G (lv_sub hl [0, 1, 2, 3, 4, 5, 6, 7] rfl)
    · refine lv_iconst (v := 1) hx hb dX9_does_215 (by decide) ?_
      refine lv_goto (tgt := 220) hx hb dX9_does_216 (by decide) ?_
      exact J38 1 (by rw [X9_does3N_x8, if_pos c36]) _ _ _ G (lv_sub hl [0, 1, 2, 3, 4, 5, 6, 7] rfl)
  refine lv_icmp_ne (tgt := 209) hx hb dX9_does_202 (by decide) (fun c32 => ?_) (fun c32 => ?_)
  · refine lv_iconst (v := 0) hx hb dX9_does_209 (by decide) ?_
    exact J34 0 (by rw [X9_does3N_x7, if_neg c32]) _ _ _ G (lv_sub hl [0, 1, 2, 3, 4, 5, 6, 7] rfl)
  · refine lv_iconst (v := 1) hx hb dX9_does_205 (by decide) ?_
    refine lv_goto (tgt := 210) hx hb dX9_does_206 (by decide) ?_
    exact J34 1 (by rw [X9_does3N_x7, if_pos c32]) _ _ _ G (lv_sub hl [0, 1, 2, 3, 4, 5, 6, 7] rfl)
def X9_does2S_g0 (gd : Nat → Int32) (d : Nat) : Nat → Int32 := upd gd (6 * d) 2
def X9_does2S_g1 (p1 : Int32) (gd : Nat → Int32) (d : Nat) : Nat → Int32 := upd (X9_does2S_g0 gd d) (6 * d + 1) p1
def X9_does2S_g2 (p1 : Int32) (p2 : Nat) (gd : Nat → Int32) (d : Nat) : Nat → Int32 := upd (X9_does2S_g1 p1 gd d) (6 * d + 2) (nI p2)
def X9_does2S_g3 (p1 : Int32) (p2 : Nat) (p3 : Int32) (gd : Nat → Int32) (d : Nat) : Nat → Int32 := upd (X9_does2S_g2 p1 p2 gd d) (6 * d + 3) p3
def X9_does2S_g4 (p1 : Int32) (p2 : Nat) (p3 : Int32) (p4 : Int32) (gd : Nat → Int32) (d : Nat) : Nat → Int32 := upd (X9_does2S_g3 p1 p2 p3 gd d) (6 * d + 4) p4
def X9_does2S_g5 (p1 : Int32) (p2 : Nat) (p3 : Int32) (p4 : Int32) (p5 : Int32) (gd : Nat → Int32) (d : Nat) : Nat → Int32 := upd (X9_does2S_g4 p1 p2 p3 p4 gd d) (6 * d + 5) p5
def X9_does2S_g6 (g : Nat → Int32) (d : Nat) : Nat → Int32 := upd g 23 (nI (d + 1))
def X9_does2S_x7 (p3 : Int32) : Int32 := if p3 = 1 then 1 else 0
def X9_does2S_x8 (p5 : Int32) : Int32 := if p5 = 1 then 1 else 0
def X9_does2S_g9 (g : Nat → Int32) (p1 : Int32) (p2 : Nat) (p3 : Int32) (p4 : Int32) (p5 : Int32) (i : Nat) (a : Nat) (b2 : Nat) (bo : Nat) (s : Nat) (cm : Nat) (wk : Nat) (nx : Nat) (e : Nat) (d : Nat) : Nat → Int32 := (X9_fallsS_g12 (X9_does2S_g6 g d) p1 p2 (X9_does2S_x7 p3) p4 (X9_does2S_x8 p5) i a b2 bo s cm wk nx e)
set_option maxRecDepth 100000 in
theorem k_X9_does2S {l : Launch} (hfl : l.stackTraces = false) {D : va_G} {cy : Nat → ClassId} {f : Hf} {sz : Nat} {m : Nat} {v : Nat} {im : Nat} {kp : Nat} {pa : Nat} {de : Nat} {ide : Nat} {tx : Nat} {pt : Nat} {so : Nat} {mo : Nat} {wh : Nat} {pf : Nat} {c_th : Int32} {c_re : Int32} {c_un : Int32} {c_hi : Int32} {c_tn : Int32} {c_fa : Int32} {c_rf : Int32} {c_ps : Int32} {c_pl : Int32} {c_to : Int32} {g : Nat → Int32} (p1 : Int32) {p2 : Nat} (p3 : Int32) (p4 : Int32) (p5 : Int32) {gd : Nat → Int32} {i : Nat} {a : Nat} {b2 : Nat} {bo : Nat} {s : Nat} {cm : Nat} {wk : Nat} {nx : Nat} {e : Nat} {d : Nat} (h_m : f m = some (.inr (11, [.int c_th, .int c_re, .ref v, .ref im, .ref kp, .ref pa, .ref de, .ref ide, .int c_un, .int c_hi, .ref tx, .int c_tn, .int c_fa, .int c_rf, .ref pt, .int c_ps, .int c_pl, .int c_to, .ref so, .ref mo, .ref wh, .ref pf]))) (h_v : f v = some (.inl (cy 0, 6441, .inl g))) (h_de : f de = some (.inl (cy 0, 24000, .inl gd))) (h4 : g 4 = nI i) (hi : i < 4) (h6 : g 6 = nI a) (ha : a < 11) (h7 : g 7 = nI b2) (hb2 : b2 < 11) (h9 : g 9 = nI bo) (hbo : bo < 11) (h22 : g 22 = nI s) (hs1 : 1 ≤ s) (hs : s < 699) (hcm : g (25 + 11 * i + 8) = nI cm) (hc : cm < 20) (hwk : g (25 + 11 * i + 1) = nI wk) (hwk1 : wk < 11) (h1 : g 1 = nI e) (he : e = 1 ∨ e = 2) (hie : i + 1 ≤ 2 * e) (hrr : i + 1 = 2 * e → e = 2 ∨ ¬ (g 14).toInt64 = 0) (hn : X9_next_r1 g i = nI nx) (hnx : nx < 11) (h23 : g 23 = nI d) (hd : d < 4000) (hk : p2 < 5) : hMet l yX9_does cX9_does 9 (some .int) { frames := 4, cells := 0, slots := 0, locals := 101 } D (hTy cy) f sz [.ref m, .int 2, .int p1, .int (nI p2), .int p3, .int p4, .int p5] (hQi (fun r u => r = (X9_fallsS_r11 wk) ∧ u de = some (.inl (cy 0, 24000, .inl (X9_does2S_g5 p1 p2 p3 p4 p5 gd d))) ∧ u v = some (.inl (cy 0, 6441, .inl (X9_does2S_g9 g p1 p2 p3 p4 p5 i a b2 bo s cm wk nx e d))) ∧ hFrL f u [de, v]) D f sz) hNo := by
  refine h_enter (by decide) hfl (Nat.le_of_ble_eq_true rfl) ?_
  intro p9 e9 s9 m9 b9 t9 c9 hsz C0 hr hnm G ls hl
  have hx := C0.1.1
  have hb := C0.1.2.1
  have hl : lv_has ls 9 [(0, .ref m), (1, .int 2), (2, .int p1), (3, .int (nI p2)), (4, .int p3), (5, .int p4), (6, .int p5)] := hl
  refine lv_bipush (v := 6) hx hb dX9_does_0 (by decide) ?_
  refine lv_aload_n hx hb dX9_does_2 rfl (lv_at hl 0 rfl) ?_
  refine g_get C0 G h_m rfl hiX9 2 (by decide) mf_X9_9 rfl dX9_does_3 ?_
  refine lv_bipush (v := 23) hx hb dX9_does_6 (by decide) ?_
  refine g_iald C0 G h_v 0 rfl (by unfold vp_in; decide) dX9_does_8 ?_
  refine lv_topv (v := g 23) rfl ?_
  refine lv_topv (v := nI d) (h23) ?_
  refine lv_imul hx hb dX9_does_9 ?_
  refine lv_topv (v := nI (6 * d)) ((pk_mul _ _)) ?_
  refine lv_istore (lv' := [(7, .int (nI (6 * d))), (0, .ref m), (1, .int 2), (2, .int p1), (3, .int (nI p2)), (4, .int p3), (5, .int p4), (6, .int p5)]) hx hb dX9_does_10 hl (by decide) rfl (fun ls hl => ?_)
  refine lv_aload_n hx hb dX9_does_12 rfl (lv_at hl 1 rfl) ?_
  refine g_get C0 G h_m rfl hiX9 6 (by decide) mf_X9_23 rfl dX9_does_13 ?_
  refine lv_iload hx hb dX9_does_16 (lv_at hl 0 rfl) ?_
  refine lv_iload_n hx hb dX9_does_18 rfl (lv_at hl 2 rfl) ?_
  refine g_iast C0 G h_de 0 rfl (vp_in_nI (by omega) (by omega)) dX9_does_19 (fun H locs f11 hf11 G => ?_)
  have k12 : f11 de = some (.inl (cy 0, 24000, .inl (X9_does2S_g0 gd d))) := (by have h9 := hus hf11; rw [nI_c (by omega)] at h9; exact h9)
  refine lv_aload_n hx hb dX9_does_20 rfl (lv_at hl 1 rfl) ?_
  have k13 : f11 m = some (.inr (11, [.int c_th, .int c_re, .ref v, .ref im, .ref kp, .ref pa, .ref de, .ref ide, .int c_un, .int c_hi, .ref tx, .int c_tn, .int c_fa, .int c_rf, .ref pt, .int c_ps, .int c_pl, .int c_to, .ref so, .ref mo, .ref wh, .ref pf])) := hup hf11 (hne h_m h_de (by intro q; cases q)) h_m
  refine g_get C0 G k13 rfl hiX9 6 (by decide) mf_X9_23 rfl dX9_does_21 ?_
  refine lv_iload hx hb dX9_does_24 (lv_at hl 0 rfl) ?_
  refine lv_iconst (v := 1) hx hb dX9_does_26 (by decide) ?_
  refine lv_iadd hx hb dX9_does_27 ?_
  refine lv_topv (v := nI (6 * d + 1)) ((nI_add _ _)) ?_
  refine lv_iload_n hx hb dX9_does_28 rfl (lv_at hl 3 rfl) ?_
  refine g_iast C0 G k12 0 rfl (vp_in_nI (by omega) (by omega)) dX9_does_29 (fun H locs f14 hf14 G => ?_)
  have k15 : f14 de = some (.inl (cy 0, 24000, .inl (X9_does2S_g1 p1 gd d))) := (by have h9 := hus hf14; rw [nI_c (by omega)] at h9; exact h9)
  refine lv_aload_n hx hb dX9_does_30 rfl (lv_at hl 1 rfl) ?_
  have k16 : f14 m = some (.inr (11, [.int c_th, .int c_re, .ref v, .ref im, .ref kp, .ref pa, .ref de, .ref ide, .int c_un, .int c_hi, .ref tx, .int c_tn, .int c_fa, .int c_rf, .ref pt, .int c_ps, .int c_pl, .int c_to, .ref so, .ref mo, .ref wh, .ref pf])) := hup hf14 (hne k13 k12 (by intro q; cases q)) k13
  refine g_get C0 G k16 rfl hiX9 6 (by decide) mf_X9_23 rfl dX9_does_31 ?_
  refine lv_iload hx hb dX9_does_34 (lv_at hl 0 rfl) ?_
  refine lv_iconst (v := 2) hx hb dX9_does_36 (by decide) ?_
  refine lv_iadd hx hb dX9_does_37 ?_
  refine lv_topv (v := nI (6 * d + 2)) ((nI_add _ _)) ?_
  refine lv_iload_n hx hb dX9_does_38 rfl (lv_at hl 4 rfl) ?_
  refine g_iast C0 G k15 0 rfl (vp_in_nI (by omega) (by omega)) dX9_does_39 (fun H locs f17 hf17 G => ?_)
  have k18 : f17 de = some (.inl (cy 0, 24000, .inl (X9_does2S_g2 p1 p2 gd d))) := (by have h9 := hus hf17; rw [nI_c (by omega)] at h9; exact h9)
  refine lv_aload_n hx hb dX9_does_40 rfl (lv_at hl 1 rfl) ?_
  have k19 : f17 m = some (.inr (11, [.int c_th, .int c_re, .ref v, .ref im, .ref kp, .ref pa, .ref de, .ref ide, .int c_un, .int c_hi, .ref tx, .int c_tn, .int c_fa, .int c_rf, .ref pt, .int c_ps, .int c_pl, .int c_to, .ref so, .ref mo, .ref wh, .ref pf])) := hup hf17 (hne k16 k15 (by intro q; cases q)) k16
  refine g_get C0 G k19 rfl hiX9 6 (by decide) mf_X9_23 rfl dX9_does_41 ?_
  refine lv_iload hx hb dX9_does_44 (lv_at hl 0 rfl) ?_
  refine lv_iconst (v := 3) hx hb dX9_does_46 (by decide) ?_
  refine lv_iadd hx hb dX9_does_47 ?_
  refine lv_topv (v := nI (6 * d + 3)) ((nI_add _ _)) ?_
  refine lv_iload hx hb dX9_does_48 (lv_at hl 5 rfl) ?_
  refine g_iast C0 G k18 0 rfl (vp_in_nI (by omega) (by omega)) dX9_does_50 (fun H locs f20 hf20 G => ?_)
  have k21 : f20 de = some (.inl (cy 0, 24000, .inl (X9_does2S_g3 p1 p2 p3 gd d))) := (by have h9 := hus hf20; rw [nI_c (by omega)] at h9; exact h9)
  refine lv_aload_n hx hb dX9_does_51 rfl (lv_at hl 1 rfl) ?_
  have k22 : f20 m = some (.inr (11, [.int c_th, .int c_re, .ref v, .ref im, .ref kp, .ref pa, .ref de, .ref ide, .int c_un, .int c_hi, .ref tx, .int c_tn, .int c_fa, .int c_rf, .ref pt, .int c_ps, .int c_pl, .int c_to, .ref so, .ref mo, .ref wh, .ref pf])) := hup hf20 (hne k19 k18 (by intro q; cases q)) k19
  refine g_get C0 G k22 rfl hiX9 6 (by decide) mf_X9_23 rfl dX9_does_52 ?_
  refine lv_iload hx hb dX9_does_55 (lv_at hl 0 rfl) ?_
  refine lv_iconst (v := 4) hx hb dX9_does_57 (by decide) ?_
  refine lv_iadd hx hb dX9_does_58 ?_
  refine lv_topv (v := nI (6 * d + 4)) ((nI_add _ _)) ?_
  refine lv_iload hx hb dX9_does_59 (lv_at hl 6 rfl) ?_
  refine g_iast C0 G k21 0 rfl (vp_in_nI (by omega) (by omega)) dX9_does_61 (fun H locs f23 hf23 G => ?_)
  have k24 : f23 de = some (.inl (cy 0, 24000, .inl (X9_does2S_g4 p1 p2 p3 p4 gd d))) := (by have h9 := hus hf23; rw [nI_c (by omega)] at h9; exact h9)
  refine lv_aload_n hx hb dX9_does_62 rfl (lv_at hl 1 rfl) ?_
  have k25 : f23 m = some (.inr (11, [.int c_th, .int c_re, .ref v, .ref im, .ref kp, .ref pa, .ref de, .ref ide, .int c_un, .int c_hi, .ref tx, .int c_tn, .int c_fa, .int c_rf, .ref pt, .int c_ps, .int c_pl, .int c_to, .ref so, .ref mo, .ref wh, .ref pf])) := hup hf23 (hne k22 k21 (by intro q; cases q)) k22
  refine g_get C0 G k25 rfl hiX9 6 (by decide) mf_X9_23 rfl dX9_does_63 ?_
  refine lv_iload hx hb dX9_does_66 (lv_at hl 0 rfl) ?_
  refine lv_iconst (v := 5) hx hb dX9_does_68 (by decide) ?_
  refine lv_iadd hx hb dX9_does_69 ?_
  refine lv_topv (v := nI (6 * d + 5)) ((nI_add _ _)) ?_
  refine lv_iload hx hb dX9_does_70 (lv_at hl 7 rfl) ?_
  refine g_iast C0 G k24 0 rfl (vp_in_nI (by omega) (by omega)) dX9_does_72 (fun H locs f26 hf26 G => ?_)
  have k27 : f26 de = some (.inl (cy 0, 24000, .inl (X9_does2S_g5 p1 p2 p3 p4 p5 gd d))) := (by have h9 := hus hf26; rw [nI_c (by omega)] at h9; exact h9)
  refine lv_aload_n hx hb dX9_does_73 rfl (lv_at hl 1 rfl) ?_
  have k28 : f26 m = some (.inr (11, [.int c_th, .int c_re, .ref v, .ref im, .ref kp, .ref pa, .ref de, .ref ide, .int c_un, .int c_hi, .ref tx, .int c_tn, .int c_fa, .int c_rf, .ref pt, .int c_ps, .int c_pl, .int c_to, .ref so, .ref mo, .ref wh, .ref pf])) := hup hf26 (hne k25 k24 (by intro q; cases q)) k25
  refine g_get C0 G k28 rfl hiX9 2 (by decide) mf_X9_9 rfl dX9_does_74 ?_
  refine lv_bipush (v := 23) hx hb dX9_does_77 (by decide) ?_
  refine lv_dup2_11 hx hb dX9_does_79 rfl rfl ?_
  have k29 : f26 v = some (.inl (cy 0, 6441, .inl g)) := hup hf26 (hne (hup hf23 (hne (hup hf20 (hne (hup hf17 (hne (hup hf14 (hne (hup hf11 (hne h_v h_de (by intro q; cases q)) h_v) k12 (by intro q; cases q)) (hup hf11 (hne h_v h_de (by intro q; cases q)) h_v)) k15 (by intro q; cases q)) (hup hf14 (hne (hup hf11 (hne h_v h_de (by intro q; cases q)) h_v) k12 (by intro q; cases q)) (hup hf11 (hne h_v h_de (by intro q; cases q)) h_v))) k18 (by intro q; cases q)) (hup hf17 (hne (hup hf14 (hne (hup hf11 (hne h_v h_de (by intro q; cases q)) h_v) k12 (by intro q; cases q)) (hup hf11 (hne h_v h_de (by intro q; cases q)) h_v)) k15 (by intro q; cases q)) (hup hf14 (hne (hup hf11 (hne h_v h_de (by intro q; cases q)) h_v) k12 (by intro q; cases q)) (hup hf11 (hne h_v h_de (by intro q; cases q)) h_v)))) k21 (by intro q; cases q)) (hup hf20 (hne (hup hf17 (hne (hup hf14 (hne (hup hf11 (hne h_v h_de (by intro q; cases q)) h_v) k12 (by intro q; cases q)) (hup hf11 (hne h_v h_de (by intro q; cases q)) h_v)) k15 (by intro q; cases q)) (hup hf14 (hne (hup hf11 (hne h_v h_de (by intro q; cases q)) h_v) k12 (by intro q; cases q)) (hup hf11 (hne h_v h_de (by intro q; cases q)) h_v))) k18 (by intro q; cases q)) (hup hf17 (hne (hup hf14 (hne (hup hf11 (hne h_v h_de (by intro q; cases q)) h_v) k12 (by intro q; cases q)) (hup hf11 (hne h_v h_de (by intro q; cases q)) h_v)) k15 (by intro q; cases q)) (hup hf14 (hne (hup hf11 (hne h_v h_de (by intro q; cases q)) h_v) k12 (by intro q; cases q)) (hup hf11 (hne h_v h_de (by intro q; cases q)) h_v))))) k24 (by intro q; cases q)) (hup hf23 (hne (hup hf20 (hne (hup hf17 (hne (hup hf14 (hne (hup hf11 (hne h_v h_de (by intro q; cases q)) h_v) k12 (by intro q; cases q)) (hup hf11 (hne h_v h_de (by intro q; cases q)) h_v)) k15 (by intro q; cases q)) (hup hf14 (hne (hup hf11 (hne h_v h_de (by intro q; cases q)) h_v) k12 (by intro q; cases q)) (hup hf11 (hne h_v h_de (by intro q; cases q)) h_v))) k18 (by intro q; cases q)) (hup hf17 (hne (hup hf14 (hne (hup hf11 (hne h_v h_de (by intro q; cases q)) h_v) k12 (by intro q; cases q)) (hup hf11 (hne h_v h_de (by intro q; cases q)) h_v)) k15 (by intro q; cases q)) (hup hf14 (hne (hup hf11 (hne h_v h_de (by intro q; cases q)) h_v) k12 (by intro q; cases q)) (hup hf11 (hne h_v h_de (by intro q; cases q)) h_v)))) k21 (by intro q; cases q)) (hup hf20 (hne (hup hf17 (hne (hup hf14 (hne (hup hf11 (hne h_v h_de (by intro q; cases q)) h_v) k12 (by intro q; cases q)) (hup hf11 (hne h_v h_de (by intro q; cases q)) h_v)) k15 (by intro q; cases q)) (hup hf14 (hne (hup hf11 (hne h_v h_de (by intro q; cases q)) h_v) k12 (by intro q; cases q)) (hup hf11 (hne h_v h_de (by intro q; cases q)) h_v))) k18 (by intro q; cases q)) (hup hf17 (hne (hup hf14 (hne (hup hf11 (hne h_v h_de (by intro q; cases q)) h_v) k12 (by intro q; cases q)) (hup hf11 (hne h_v h_de (by intro q; cases q)) h_v)) k15 (by intro q; cases q)) (hup hf14 (hne (hup hf11 (hne h_v h_de (by intro q; cases q)) h_v) k12 (by intro q; cases q)) (hup hf11 (hne h_v h_de (by intro q; cases q)) h_v)))))
  refine g_iald C0 G k29 0 rfl (by unfold vp_in; decide) dX9_does_80 ?_
  refine lv_topv (v := g 23) rfl ?_
  refine lv_topv (v := nI d) (h23) ?_
  refine lv_iconst (v := 1) hx hb dX9_does_81 (by decide) ?_
  refine lv_iadd hx hb dX9_does_82 ?_
  refine lv_topv (v := nI (d + 1)) ((nI_add _ _)) ?_
  refine g_iast C0 G k29 0 rfl (by unfold vp_in; decide) dX9_does_83 (fun H locs f30 hf30 G => ?_)
  have k31 : f30 v = some (.inl (cy 0, 6441, .inl (X9_does2S_g6 g d))) := hus hf30
  refine lv_iload_n hx hb dX9_does_84 rfl (lv_at hl 2 rfl) ?_
  refine lv_tableIn (off := 83) (tgt := 168) hx hb dX9_does_85 (by decide) (by decide) rfl (by decide) ?_
  refine lv_aload_n hx hb dX9_does_168 rfl (lv_at hl 1 rfl) ?_
  refine lv_iload_n hx hb dX9_does_169 rfl (lv_at hl 3 rfl) ?_
  refine lv_iload_n hx hb dX9_does_170 rfl (lv_at hl 4 rfl) ?_
  refine lv_iload hx hb dX9_does_171 (lv_at hl 5 rfl) ?_
  refine lv_iconst (v := 1) hx hb dX9_does_173 (by decide) ?_
  have J34 : ∀ (y33 : Int32) (_ : y33 = (X9_does2S_x7 p3)) (H : Heap) (locs : List Loc) (ls : Array Slot), hG D (hA f sz) f30 s9 H locs → lv_has ls 9 [(7, .int (nI (6 * d))), (0, .ref m), (1, .int 2), (2, .int p1), (3, .int (nI p2)), (4, .int p3), (5, .int p4), (6, .int p5)] → W p9 l e9 ({ frames := 4, cells := 0, slots := 0, locals := 101 } : Room) s9 m9 ([.ref m, .int 2, .int p1, .int (nI p2), .int p3, .int p4, .int p5] : List Value).toArray b9 t9 c9 H locs 0 0 (vx_MQ b9 (hQi (fun r u => r = (X9_fallsS_r11 wk) ∧ u de = some (.inl (cy 0, 24000, .inl (X9_does2S_g5 p1 p2 p3 p4 p5 gd d))) ∧ u v = some (.inl (cy 0, 6441, .inl (X9_does2S_g9 g p1 p2 p3 p4 p5 i a b2 bo s cm wk nx e d))) ∧ hFrL f u [de, v]) D f sz) (hPx hNo D f sz) ([.ref m, .int 2, .int p1, .int (nI p2), .int p3, .int p4, .int p5] : List Value).toArray s9 0 0 (hA f sz)) (F0 m9 182 ls [.int y33, .int (nI p2), .int p1, .ref m]) := by
    intro y33 ey33 H locs ls G hl
    subst ey33
    refine lv_iload hx hb dX9_does_182 (lv_at hl 6 rfl) ?_
    refine lv_iload hx hb dX9_does_184 (lv_at hl 7 rfl) ?_
    refine lv_iconst (v := 1) hx hb dX9_does_186 (by decide) ?_
    have J38 : ∀ (y37 : Int32) (_ : y37 = (X9_does2S_x8 p5)) (H : Heap) (locs : List Loc) (ls : Array Slot), hG D (hA f sz) f30 s9 H locs → lv_has ls 9 [(7, .int (nI (6 * d))), (0, .ref m), (1, .int 2), (2, .int p1), (3, .int (nI p2)), (4, .int p3), (5, .int p4), (6, .int p5)] → W p9 l e9 ({ frames := 4, cells := 0, slots := 0, locals := 101 } : Room) s9 m9 ([.ref m, .int 2, .int p1, .int (nI p2), .int p3, .int p4, .int p5] : List Value).toArray b9 t9 c9 H locs 0 0 (vx_MQ b9 (hQi (fun r u => r = (X9_fallsS_r11 wk) ∧ u de = some (.inl (cy 0, 24000, .inl (X9_does2S_g5 p1 p2 p3 p4 p5 gd d))) ∧ u v = some (.inl (cy 0, 6441, .inl (X9_does2S_g9 g p1 p2 p3 p4 p5 i a b2 bo s cm wk nx e d))) ∧ hFrL f u [de, v]) D f sz) (hPx hNo D f sz) ([.ref m, .int 2, .int p1, .int (nI p2), .int p3, .int p4, .int p5] : List Value).toArray s9 0 0 (hA f sz)) (F0 m9 195 ls [.int y37, .int p4, .int (X9_does2S_x7 p3), .int (nI p2), .int p1, .ref m]) := by
      intro y37 ey37 H locs ls G hl
      subst ey37
      have k40 : f30 m = some (.inr (11, [.int c_th, .int c_re, .ref v, .ref im, .ref kp, .ref pa, .ref de, .ref ide, .int c_un, .int c_hi, .ref tx, .int c_tn, .int c_fa, .int c_rf, .ref pt, .int c_ps, .int c_pl, .int c_to, .ref so, .ref mo, .ref wh, .ref pf])) := hup hf30 (hne k28 k29 (by intro q; cases q)) k28
      refine g_cI C0 G (g_runV C0 G (rest := []) (k_X9_fallsS hfl p1 (X9_does2S_x7 p3) p4 (X9_does2S_x8 p5) k40 k31 (by rw [X9_does2S_g6, upd_off (by omega)]; exact h4) hi (by rw [X9_does2S_g6, upd_off (by omega)]; exact h6) ha (by rw [X9_does2S_g6, upd_off (by omega)]; exact h7) hb2 (by rw [X9_does2S_g6, upd_off (by omega)]; exact h9) hbo (by rw [X9_does2S_g6, upd_off (by omega)]; exact h22) hs1 hs (by rw [X9_does2S_g6, upd_off (by omega)]; exact hcm) hc (by rw [X9_does2S_g6, upd_off (by omega)]; exact hwk) hwk1 (by rw [X9_does2S_g6, upd_off (by omega)]; exact h1) he hie (fun q => by have e9 : (X9_does2S_g6 g d) 14 = g 14 := (by rw [X9_does2S_g6, upd_off (by omega)]); rw [e9]; exact hrr q) (by unfold X9_next_r1 X9_next_x0 X9_lowest_r0; rw [((by rw [X9_does2S_g6, upd_off (by omega)]) : (X9_does2S_g6 g d) 8 = g 8), ((by rw [X9_does2S_g6, upd_off (by omega)]) : (X9_does2S_g6 g d) (69 + 6 * (11 * i + 0) + 4) = g (69 + 6 * (11 * i + 0) + 4)), ((by rw [X9_does2S_g6, upd_off (by omega)]) : (X9_does2S_g6 g d) (69 + 6 * (11 * i + 1) + 4) = g (69 + 6 * (11 * i + 1) + 4)), ((by rw [X9_does2S_g6, upd_off (by omega)]) : (X9_does2S_g6 g d) (69 + 6 * (11 * i + 2) + 4) = g (69 + 6 * (11 * i + 2) + 4)), ((by rw [X9_does2S_g6, upd_off (by omega)]) : (X9_does2S_g6 g d) (69 + 6 * (11 * i + 3) + 4) = g (69 + 6 * (11 * i + 3) + 4)), ((by rw [X9_does2S_g6, upd_off (by omega)]) : (X9_does2S_g6 g d) (69 + 6 * (11 * i + 4) + 4) = g (69 + 6 * (11 * i + 4) + 4)), ((by rw [X9_does2S_g6, upd_off (by omega)]) : (X9_does2S_g6 g d) (69 + 6 * (11 * i + 5) + 4) = g (69 + 6 * (11 * i + 5) + 4)), ((by rw [X9_does2S_g6, upd_off (by omega)]) : (X9_does2S_g6 g d) (69 + 6 * (11 * i + 6) + 4) = g (69 + 6 * (11 * i + 6) + 4)), ((by rw [X9_does2S_g6, upd_off (by omega)]) : (X9_does2S_g6 g d) (69 + 6 * (11 * i + 7) + 4) = g (69 + 6 * (11 * i + 7) + 4)), ((by rw [X9_does2S_g6, upd_off (by omega)]) : (X9_does2S_g6 g d) (69 + 6 * (11 * i + 8) + 4) = g (69 + 6 * (11 * i + 8) + 4)), ((by rw [X9_does2S_g6, upd_off (by omega)]) : (X9_does2S_g6 g d) (69 + 6 * (11 * i + 9) + 4) = g (69 + 6 * (11 * i + 9) + 4)), ((by rw [X9_does2S_g6, upd_off (by omega)]) : (X9_does2S_g6 g d) (69 + 6 * (11 * i + 10) + 4) = g (69 + 6 * (11 * i + 10) + 4))]; exact hn) hnx hk (by repeat (first | exact Or.inl rfl | exact Or.inr rfl | assumption | split | unfold X9_does2S_x7 | unfold X9_does2S_x8)) (by repeat (first | exact Or.inl rfl | exact Or.inr rfl | assumption | split | unfold X9_does2S_x7 | unfold X9_does2S_x8))) k40 rfl hY_X9_falls mm_X9_129 mi_X9_falls ml_X9_falls ⟨(Nat.le_of_ble_eq_true rfl), (Nat.le_of_ble_eq_true rfl)⟩ rfl hl.1 rfl (Nat.le_of_ble_eq_true rfl) dX9_does_195 ⟨(Nat.le_of_ble_eq_true rfl), (Nat.le_of_ble_eq_true rfl)⟩) (kx_no rfl) (fun r43 u42 H locs hp41 G => ?_)
      obtain ⟨rfl, k44, fr45⟩ := hp41
      have k46 : u42 de = some (.inl (cy 0, 24000, .inl (X9_does2S_g5 p1 p2 p3 p4 p5 gd d))) := fr45 _ _ (by simp only [List.mem_cons, List.not_mem_nil, or_false]; intro q; exact (hne (hup hf30 (hne k27 k29 (by intro q; cases q)) k27) k31 (by intro q; cases q)) q) (hup hf30 (hne k27 k29 (by intro q; cases q)) k27)
      exact g_iret C0 G hr dX9_does_198 (Nat.le_of_ble_eq_true rfl) (Nat.le_of_ble_eq_true rfl) (by exact ⟨rfl, k46, (by rw [(by rw [X9_does2S_g9] : (X9_does2S_g9 g p1 p2 p3 p4 p5 i a b2 bo s cm wk nx e d) = (X9_fallsS_g12 (X9_does2S_g6 g d) p1 p2 (X9_does2S_x7 p3) p4 (X9_does2S_x8 p5) i a b2 bo s cm wk nx e))]; exact k44), (fun a9 e9 h7 h8 => fr45 _ _ (fun q => h7 (by simp only [List.mem_cons, List.not_mem_nil, or_false] at q ⊢; first | exact q | (rcases q with q <;> simp [q]) | omega)) (hup hf30 (fun q => h7 (by rw [q]; simp)) (hup hf26 (fun q => h7 (by rw [q]; simp)) (hup hf23 (fun q => h7 (by rw [q]; simp)) (hup hf20 (fun q => h7 (by rw [q]; simp)) (hup hf17 (fun q => h7 (by rw [q]; simp)) (hup hf14 (fun q => h7 (by rw [q]; simp)) (hup hf11 (fun q => h7 (by rw [q]; simp)) (h8)))))))))⟩)
    refine lv_icmp_ne (tgt := 194) hx hb dX9_does_187 (by decide) (fun c36 => ?_) (fun c36 => ?_)
    · refine lv_iconst (v := 0) hx hb dX9_does_194 (by decide) ?_
      exact J38 0 (by rw [X9_does2S_x8, if_neg c36]) _ _ _ G (lv_sub hl [0, 1, 2, 3, 4, 5, 6, 7] rfl)
    · refine lv_iconst (v := 1) hx hb dX9_does_190 (by decide) ?_
      refine lv_goto (tgt := 195) hx hb dX9_does_191 (by decide) ?_
      exact J38 1 (by rw [X9_does2S_x8, if_pos c36]) _ _ _ G (lv_sub hl [0, 1, 2, 3, 4, 5, 6, 7] rfl)
  refine lv_icmp_ne (tgt := 181) hx hb dX9_does_174 (by decide) (fun c32 => ?_) (fun c32 => ?_)
  · refine lv_iconst (v := 0) hx hb dX9_does_181 (by decide) ?_
    exact J34 0 (by rw [X9_does2S_x7, if_neg c32]) _ _ _ G (lv_sub hl [0, 1, 2, 3, 4, 5, 6, 7] rfl)
  · refine lv_iconst (v := 1) hx hb dX9_does_177 (by decide) ?_
    refine lv_goto (tgt := 182) hx hb dX9_does_178 (by decide) ?_
    exact J34 1 (by rw [X9_does2S_x7, if_pos c32]) _ _ _ G (lv_sub hl [0, 1, 2, 3, 4, 5, 6, 7] rfl)
def X9_does3S_g0 (gd : Nat → Int32) (d : Nat) : Nat → Int32 := upd gd (6 * d) 3
def X9_does3S_g1 (p1 : Int32) (gd : Nat → Int32) (d : Nat) : Nat → Int32 := upd (X9_does3S_g0 gd d) (6 * d + 1) p1
def X9_does3S_g2 (p1 : Int32) (p2 : Int32) (gd : Nat → Int32) (d : Nat) : Nat → Int32 := upd (X9_does3S_g1 p1 gd d) (6 * d + 2) p2
def X9_does3S_g3 (p1 : Int32) (p2 : Int32) (p3 : Int32) (gd : Nat → Int32) (d : Nat) : Nat → Int32 := upd (X9_does3S_g2 p1 p2 gd d) (6 * d + 3) p3
def X9_does3S_g4 (p1 : Int32) (p2 : Int32) (p3 : Int32) (p4 : Int32) (gd : Nat → Int32) (d : Nat) : Nat → Int32 := upd (X9_does3S_g3 p1 p2 p3 gd d) (6 * d + 4) p4
def X9_does3S_g5 (p1 : Int32) (p2 : Int32) (p3 : Int32) (p4 : Int32) (p5 : Int32) (gd : Nat → Int32) (d : Nat) : Nat → Int32 := upd (X9_does3S_g4 p1 p2 p3 p4 gd d) (6 * d + 5) p5
def X9_does3S_g6 (g : Nat → Int32) (d : Nat) : Nat → Int32 := upd g 23 (nI (d + 1))
def X9_does3S_x7 (p1 : Int32) : Int32 := if p1 = 1 then 1 else 0
def X9_does3S_x8 (p2 : Int32) : Int32 := if p2 = 1 then 1 else 0
def X9_does3S_g9 (g : Nat → Int32) (p1 : Int32) (p2 : Int32) (i : Nat) (a : Nat) (b2 : Nat) (s : Nat) (nx : Nat) (e : Nat) (d : Nat) : Nat → Int32 := (X9_retiresS_g3 (X9_does3S_g6 g d) (X9_does3S_x7 p1) (X9_does3S_x8 p2) i a b2 s nx e)
set_option maxRecDepth 100000 in
theorem k_X9_does3S {l : Launch} (hfl : l.stackTraces = false) {D : va_G} {cy : Nat → ClassId} {f : Hf} {sz : Nat} {m : Nat} {v : Nat} {im : Nat} {kp : Nat} {pa : Nat} {de : Nat} {ide : Nat} {tx : Nat} {pt : Nat} {so : Nat} {mo : Nat} {wh : Nat} {pf : Nat} {c_th : Int32} {c_re : Int32} {c_un : Int32} {c_hi : Int32} {c_tn : Int32} {c_fa : Int32} {c_rf : Int32} {c_ps : Int32} {c_pl : Int32} {c_to : Int32} {g : Nat → Int32} (p1 : Int32) (p2 : Int32) (p3 : Int32) (p4 : Int32) (p5 : Int32) {gd : Nat → Int32} {i : Nat} {a : Nat} {b2 : Nat} {s : Nat} {nx : Nat} {e : Nat} {d : Nat} (h_m : f m = some (.inr (11, [.int c_th, .int c_re, .ref v, .ref im, .ref kp, .ref pa, .ref de, .ref ide, .int c_un, .int c_hi, .ref tx, .int c_tn, .int c_fa, .int c_rf, .ref pt, .int c_ps, .int c_pl, .int c_to, .ref so, .ref mo, .ref wh, .ref pf]))) (h_v : f v = some (.inl (cy 0, 6441, .inl g))) (h_de : f de = some (.inl (cy 0, 24000, .inl gd))) (h4 : g 4 = nI i) (hi : i < 4) (h6 : g 6 = nI a) (ha : a < 11) (h7 : g 7 = nI b2) (hb2 : b2 < 11) (h22 : g 22 = nI s) (hs1 : 1 ≤ s) (hs : s < 699) (h1 : g 1 = nI e) (he : e = 1 ∨ e = 2) (hie : i + 1 ≤ 2 * e) (hrr : i + 1 = 2 * e → e = 2 ∨ ¬ (g 14).toInt64 = 0) (hn : X9_next_r1 g i = nI nx) (hnx : nx < 11) (h23 : g 23 = nI d) (hd : d < 4000) : hMet l yX9_does cX9_does 9 (some .int) { frames := 4, cells := 0, slots := 0, locals := 94 } D (hTy cy) f sz [.ref m, .int 3, .int p1, .int p2, .int p3, .int p4, .int p5] (hQi (fun r u => r = (X9_retiresS_r2 nx) ∧ u de = some (.inl (cy 0, 24000, .inl (X9_does3S_g5 p1 p2 p3 p4 p5 gd d))) ∧ u v = some (.inl (cy 0, 6441, .inl (X9_does3S_g9 g p1 p2 i a b2 s nx e d))) ∧ hFrL f u [de, v]) D f sz) hNo := by
  refine h_enter (by decide) hfl (Nat.le_of_ble_eq_true rfl) ?_
  intro p9 e9 s9 m9 b9 t9 c9 hsz C0 hr hnm G ls hl
  have hx := C0.1.1
  have hb := C0.1.2.1
  have hl : lv_has ls 9 [(0, .ref m), (1, .int 3), (2, .int p1), (3, .int p2), (4, .int p3), (5, .int p4), (6, .int p5)] := hl
  refine lv_bipush (v := 6) hx hb dX9_does_0 (by decide) ?_
  refine lv_aload_n hx hb dX9_does_2 rfl (lv_at hl 0 rfl) ?_
  refine g_get C0 G h_m rfl hiX9 2 (by decide) mf_X9_9 rfl dX9_does_3 ?_
  refine lv_bipush (v := 23) hx hb dX9_does_6 (by decide) ?_
  refine g_iald C0 G h_v 0 rfl (by unfold vp_in; decide) dX9_does_8 ?_
  refine lv_topv (v := g 23) rfl ?_
  refine lv_topv (v := nI d) (h23) ?_
  refine lv_imul hx hb dX9_does_9 ?_
  refine lv_topv (v := nI (6 * d)) ((pk_mul _ _)) ?_
  refine lv_istore (lv' := [(7, .int (nI (6 * d))), (0, .ref m), (1, .int 3), (2, .int p1), (3, .int p2), (4, .int p3), (5, .int p4), (6, .int p5)]) hx hb dX9_does_10 hl (by decide) rfl (fun ls hl => ?_)
  refine lv_aload_n hx hb dX9_does_12 rfl (lv_at hl 1 rfl) ?_
  refine g_get C0 G h_m rfl hiX9 6 (by decide) mf_X9_23 rfl dX9_does_13 ?_
  refine lv_iload hx hb dX9_does_16 (lv_at hl 0 rfl) ?_
  refine lv_iload_n hx hb dX9_does_18 rfl (lv_at hl 2 rfl) ?_
  refine g_iast C0 G h_de 0 rfl (vp_in_nI (by omega) (by omega)) dX9_does_19 (fun H locs f11 hf11 G => ?_)
  have k12 : f11 de = some (.inl (cy 0, 24000, .inl (X9_does3S_g0 gd d))) := (by have h9 := hus hf11; rw [nI_c (by omega)] at h9; exact h9)
  refine lv_aload_n hx hb dX9_does_20 rfl (lv_at hl 1 rfl) ?_
  have k13 : f11 m = some (.inr (11, [.int c_th, .int c_re, .ref v, .ref im, .ref kp, .ref pa, .ref de, .ref ide, .int c_un, .int c_hi, .ref tx, .int c_tn, .int c_fa, .int c_rf, .ref pt, .int c_ps, .int c_pl, .int c_to, .ref so, .ref mo, .ref wh, .ref pf])) := hup hf11 (hne h_m h_de (by intro q; cases q)) h_m
  refine g_get C0 G k13 rfl hiX9 6 (by decide) mf_X9_23 rfl dX9_does_21 ?_
  refine lv_iload hx hb dX9_does_24 (lv_at hl 0 rfl) ?_
  refine lv_iconst (v := 1) hx hb dX9_does_26 (by decide) ?_
  refine lv_iadd hx hb dX9_does_27 ?_
  refine lv_topv (v := nI (6 * d + 1)) ((nI_add _ _)) ?_
  refine lv_iload_n hx hb dX9_does_28 rfl (lv_at hl 3 rfl) ?_
  refine g_iast C0 G k12 0 rfl (vp_in_nI (by omega) (by omega)) dX9_does_29 (fun H locs f14 hf14 G => ?_)
  have k15 : f14 de = some (.inl (cy 0, 24000, .inl (X9_does3S_g1 p1 gd d))) := (by have h9 := hus hf14; rw [nI_c (by omega)] at h9; exact h9)
  refine lv_aload_n hx hb dX9_does_30 rfl (lv_at hl 1 rfl) ?_
  have k16 : f14 m = some (.inr (11, [.int c_th, .int c_re, .ref v, .ref im, .ref kp, .ref pa, .ref de, .ref ide, .int c_un, .int c_hi, .ref tx, .int c_tn, .int c_fa, .int c_rf, .ref pt, .int c_ps, .int c_pl, .int c_to, .ref so, .ref mo, .ref wh, .ref pf])) := hup hf14 (hne k13 k12 (by intro q; cases q)) k13
  refine g_get C0 G k16 rfl hiX9 6 (by decide) mf_X9_23 rfl dX9_does_31 ?_
  refine lv_iload hx hb dX9_does_34 (lv_at hl 0 rfl) ?_
  refine lv_iconst (v := 2) hx hb dX9_does_36 (by decide) ?_
  refine lv_iadd hx hb dX9_does_37 ?_
  refine lv_topv (v := nI (6 * d + 2)) ((nI_add _ _)) ?_
  refine lv_iload_n hx hb dX9_does_38 rfl (lv_at hl 4 rfl) ?_
  refine g_iast C0 G k15 0 rfl (vp_in_nI (by omega) (by omega)) dX9_does_39 (fun H locs f17 hf17 G => ?_)
  have k18 : f17 de = some (.inl (cy 0, 24000, .inl (X9_does3S_g2 p1 p2 gd d))) := (by have h9 := hus hf17; rw [nI_c (by omega)] at h9; exact h9)
  refine lv_aload_n hx hb dX9_does_40 rfl (lv_at hl 1 rfl) ?_
  have k19 : f17 m = some (.inr (11, [.int c_th, .int c_re, .ref v, .ref im, .ref kp, .ref pa, .ref de, .ref ide, .int c_un, .int c_hi, .ref tx, .int c_tn, .int c_fa, .int c_rf, .ref pt, .int c_ps, .int c_pl, .int c_to, .ref so, .ref mo, .ref wh, .ref pf])) := hup hf17 (hne k16 k15 (by intro q; cases q)) k16
  refine g_get C0 G k19 rfl hiX9 6 (by decide) mf_X9_23 rfl dX9_does_41 ?_
  refine lv_iload hx hb dX9_does_44 (lv_at hl 0 rfl) ?_
  refine lv_iconst (v := 3) hx hb dX9_does_46 (by decide) ?_
  refine lv_iadd hx hb dX9_does_47 ?_
  refine lv_topv (v := nI (6 * d + 3)) ((nI_add _ _)) ?_
  refine lv_iload hx hb dX9_does_48 (lv_at hl 5 rfl) ?_
  refine g_iast C0 G k18 0 rfl (vp_in_nI (by omega) (by omega)) dX9_does_50 (fun H locs f20 hf20 G => ?_)
  have k21 : f20 de = some (.inl (cy 0, 24000, .inl (X9_does3S_g3 p1 p2 p3 gd d))) := (by have h9 := hus hf20; rw [nI_c (by omega)] at h9; exact h9)
  refine lv_aload_n hx hb dX9_does_51 rfl (lv_at hl 1 rfl) ?_
  have k22 : f20 m = some (.inr (11, [.int c_th, .int c_re, .ref v, .ref im, .ref kp, .ref pa, .ref de, .ref ide, .int c_un, .int c_hi, .ref tx, .int c_tn, .int c_fa, .int c_rf, .ref pt, .int c_ps, .int c_pl, .int c_to, .ref so, .ref mo, .ref wh, .ref pf])) := hup hf20 (hne k19 k18 (by intro q; cases q)) k19
  refine g_get C0 G k22 rfl hiX9 6 (by decide) mf_X9_23 rfl dX9_does_52 ?_
  refine lv_iload hx hb dX9_does_55 (lv_at hl 0 rfl) ?_
  refine lv_iconst (v := 4) hx hb dX9_does_57 (by decide) ?_
  refine lv_iadd hx hb dX9_does_58 ?_
  refine lv_topv (v := nI (6 * d + 4)) ((nI_add _ _)) ?_
  refine lv_iload hx hb dX9_does_59 (lv_at hl 6 rfl) ?_
  refine g_iast C0 G k21 0 rfl (vp_in_nI (by omega) (by omega)) dX9_does_61 (fun H locs f23 hf23 G => ?_)
  have k24 : f23 de = some (.inl (cy 0, 24000, .inl (X9_does3S_g4 p1 p2 p3 p4 gd d))) := (by have h9 := hus hf23; rw [nI_c (by omega)] at h9; exact h9)
  refine lv_aload_n hx hb dX9_does_62 rfl (lv_at hl 1 rfl) ?_
  have k25 : f23 m = some (.inr (11, [.int c_th, .int c_re, .ref v, .ref im, .ref kp, .ref pa, .ref de, .ref ide, .int c_un, .int c_hi, .ref tx, .int c_tn, .int c_fa, .int c_rf, .ref pt, .int c_ps, .int c_pl, .int c_to, .ref so, .ref mo, .ref wh, .ref pf])) := hup hf23 (hne k22 k21 (by intro q; cases q)) k22
  refine g_get C0 G k25 rfl hiX9 6 (by decide) mf_X9_23 rfl dX9_does_63 ?_
  refine lv_iload hx hb dX9_does_66 (lv_at hl 0 rfl) ?_
  refine lv_iconst (v := 5) hx hb dX9_does_68 (by decide) ?_
  refine lv_iadd hx hb dX9_does_69 ?_
  refine lv_topv (v := nI (6 * d + 5)) ((nI_add _ _)) ?_
  refine lv_iload hx hb dX9_does_70 (lv_at hl 7 rfl) ?_
  refine g_iast C0 G k24 0 rfl (vp_in_nI (by omega) (by omega)) dX9_does_72 (fun H locs f26 hf26 G => ?_)
  have k27 : f26 de = some (.inl (cy 0, 24000, .inl (X9_does3S_g5 p1 p2 p3 p4 p5 gd d))) := (by have h9 := hus hf26; rw [nI_c (by omega)] at h9; exact h9)
  refine lv_aload_n hx hb dX9_does_73 rfl (lv_at hl 1 rfl) ?_
  have k28 : f26 m = some (.inr (11, [.int c_th, .int c_re, .ref v, .ref im, .ref kp, .ref pa, .ref de, .ref ide, .int c_un, .int c_hi, .ref tx, .int c_tn, .int c_fa, .int c_rf, .ref pt, .int c_ps, .int c_pl, .int c_to, .ref so, .ref mo, .ref wh, .ref pf])) := hup hf26 (hne k25 k24 (by intro q; cases q)) k25
  refine g_get C0 G k28 rfl hiX9 2 (by decide) mf_X9_9 rfl dX9_does_74 ?_
  refine lv_bipush (v := 23) hx hb dX9_does_77 (by decide) ?_
  refine lv_dup2_11 hx hb dX9_does_79 rfl rfl ?_
  have k29 : f26 v = some (.inl (cy 0, 6441, .inl g)) := hup hf26 (hne (hup hf23 (hne (hup hf20 (hne (hup hf17 (hne (hup hf14 (hne (hup hf11 (hne h_v h_de (by intro q; cases q)) h_v) k12 (by intro q; cases q)) (hup hf11 (hne h_v h_de (by intro q; cases q)) h_v)) k15 (by intro q; cases q)) (hup hf14 (hne (hup hf11 (hne h_v h_de (by intro q; cases q)) h_v) k12 (by intro q; cases q)) (hup hf11 (hne h_v h_de (by intro q; cases q)) h_v))) k18 (by intro q; cases q)) (hup hf17 (hne (hup hf14 (hne (hup hf11 (hne h_v h_de (by intro q; cases q)) h_v) k12 (by intro q; cases q)) (hup hf11 (hne h_v h_de (by intro q; cases q)) h_v)) k15 (by intro q; cases q)) (hup hf14 (hne (hup hf11 (hne h_v h_de (by intro q; cases q)) h_v) k12 (by intro q; cases q)) (hup hf11 (hne h_v h_de (by intro q; cases q)) h_v)))) k21 (by intro q; cases q)) (hup hf20 (hne (hup hf17 (hne (hup hf14 (hne (hup hf11 (hne h_v h_de (by intro q; cases q)) h_v) k12 (by intro q; cases q)) (hup hf11 (hne h_v h_de (by intro q; cases q)) h_v)) k15 (by intro q; cases q)) (hup hf14 (hne (hup hf11 (hne h_v h_de (by intro q; cases q)) h_v) k12 (by intro q; cases q)) (hup hf11 (hne h_v h_de (by intro q; cases q)) h_v))) k18 (by intro q; cases q)) (hup hf17 (hne (hup hf14 (hne (hup hf11 (hne h_v h_de (by intro q; cases q)) h_v) k12 (by intro q; cases q)) (hup hf11 (hne h_v h_de (by intro q; cases q)) h_v)) k15 (by intro q; cases q)) (hup hf14 (hne (hup hf11 (hne h_v h_de (by intro q; cases q)) h_v) k12 (by intro q; cases q)) (hup hf11 (hne h_v h_de (by intro q; cases q)) h_v))))) k24 (by intro q; cases q)) (hup hf23 (hne (hup hf20 (hne (hup hf17 (hne (hup hf14 (hne (hup hf11 (hne h_v h_de (by intro q; cases q)) h_v) k12 (by intro q; cases q)) (hup hf11 (hne h_v h_de (by intro q; cases q)) h_v)) k15 (by intro q; cases q)) (hup hf14 (hne (hup hf11 (hne h_v h_de (by intro q; cases q)) h_v) k12 (by intro q; cases q)) (hup hf11 (hne h_v h_de (by intro q; cases q)) h_v))) k18 (by intro q; cases q)) (hup hf17 (hne (hup hf14 (hne (hup hf11 (hne h_v h_de (by intro q; cases q)) h_v) k12 (by intro q; cases q)) (hup hf11 (hne h_v h_de (by intro q; cases q)) h_v)) k15 (by intro q; cases q)) (hup hf14 (hne (hup hf11 (hne h_v h_de (by intro q; cases q)) h_v) k12 (by intro q; cases q)) (hup hf11 (hne h_v h_de (by intro q; cases q)) h_v)))) k21 (by intro q; cases q)) (hup hf20 (hne (hup hf17 (hne (hup hf14 (hne (hup hf11 (hne h_v h_de (by intro q; cases q)) h_v) k12 (by intro q; cases q)) (hup hf11 (hne h_v h_de (by intro q; cases q)) h_v)) k15 (by intro q; cases q)) (hup hf14 (hne (hup hf11 (hne h_v h_de (by intro q; cases q)) h_v) k12 (by intro q; cases q)) (hup hf11 (hne h_v h_de (by intro q; cases q)) h_v))) k18 (by intro q; cases q)) (hup hf17 (hne (hup hf14 (hne (hup hf11 (hne h_v h_de (by intro q; cases q)) h_v) k12 (by intro q; cases q)) (hup hf11 (hne h_v h_de (by intro q; cases q)) h_v)) k15 (by intro q; cases q)) (hup hf14 (hne (hup hf11 (hne h_v h_de (by intro q; cases q)) h_v) k12 (by intro q; cases q)) (hup hf11 (hne h_v h_de (by intro q; cases q)) h_v)))))
  refine g_iald C0 G k29 0 rfl (by unfold vp_in; decide) dX9_does_80 ?_
  refine lv_topv (v := g 23) rfl ?_
  refine lv_topv (v := nI d) (h23) ?_
  refine lv_iconst (v := 1) hx hb dX9_does_81 (by decide) ?_
  refine lv_iadd hx hb dX9_does_82 ?_
  refine lv_topv (v := nI (d + 1)) ((nI_add _ _)) ?_
  refine g_iast C0 G k29 0 rfl (by unfold vp_in; decide) dX9_does_83 (fun H locs f30 hf30 G => ?_)
  have k31 : f30 v = some (.inl (cy 0, 6441, .inl (X9_does3S_g6 g d))) := hus hf30
  refine lv_iload_n hx hb dX9_does_84 rfl (lv_at hl 2 rfl) ?_
  refine lv_tableIn (off := 114) (tgt := 199) hx hb dX9_does_85 (by decide) (by decide) rfl (by decide) ?_
  refine lv_aload_n hx hb dX9_does_199 rfl (lv_at hl 1 rfl) ?_
  refine lv_iload_n hx hb dX9_does_200 rfl (lv_at hl 3 rfl) ?_
  refine lv_iconst (v := 1) hx hb dX9_does_201 (by decide) ?_
  have J34 : ∀ (y33 : Int32) (_ : y33 = (X9_does3S_x7 p1)) (H : Heap) (locs : List Loc) (ls : Array Slot), hG D (hA f sz) f30 s9 H locs → lv_has ls 9 [(7, .int (nI (6 * d))), (0, .ref m), (1, .int 3), (2, .int p1), (3, .int p2), (4, .int p3), (5, .int p4), (6, .int p5)] → W p9 l e9 ({ frames := 4, cells := 0, slots := 0, locals := 94 } : Room) s9 m9 ([.ref m, .int 3, .int p1, .int p2, .int p3, .int p4, .int p5] : List Value).toArray b9 t9 c9 H locs 0 0 (vx_MQ b9 (hQi (fun r u => r = (X9_retiresS_r2 nx) ∧ u de = some (.inl (cy 0, 24000, .inl (X9_does3S_g5 p1 p2 p3 p4 p5 gd d))) ∧ u v = some (.inl (cy 0, 6441, .inl (X9_does3S_g9 g p1 p2 i a b2 s nx e d))) ∧ hFrL f u [de, v]) D f sz) (hPx hNo D f sz) ([.ref m, .int 3, .int p1, .int p2, .int p3, .int p4, .int p5] : List Value).toArray s9 0 0 (hA f sz)) (F0 m9 210 ls [.int y33, .ref m]) := by
    intro y33 ey33 H locs ls G hl
    subst ey33
    refine lv_iload_n hx hb dX9_does_210 rfl (lv_at hl 4 rfl) ?_
    refine lv_iconst (v := 1) hx hb dX9_does_211 (by decide) ?_
    have J38 : ∀ (y37 : Int32) (_ : y37 = (X9_does3S_x8 p2)) (H : Heap) (locs : List Loc) (ls : Array Slot), hG D (hA f sz) f30 s9 H locs → lv_has ls 9 [(7, .int (nI (6 * d))), (0, .ref m), (1, .int 3), (2, .int p1), (3, .int p2), (4, .int p3), (5, .int p4), (6, .int p5)] → W p9 l e9 ({ frames := 4, cells := 0, slots := 0, locals := 94 } : Room) s9 m9 ([.ref m, .int 3, .int p1, .int p2, .int p3, .int p4, .int p5] : List Value).toArray b9 t9 c9 H locs 0 0 (vx_MQ b9 (hQi (fun r u => r = (X9_retiresS_r2 nx) ∧ u de = some (.inl (cy 0, 24000, .inl (X9_does3S_g5 p1 p2 p3 p4 p5 gd d))) ∧ u v = some (.inl (cy 0, 6441, .inl (X9_does3S_g9 g p1 p2 i a b2 s nx e d))) ∧ hFrL f u [de, v]) D f sz) (hPx hNo D f sz) ([.ref m, .int 3, .int p1, .int p2, .int p3, .int p4, .int p5] : List Value).toArray s9 0 0 (hA f sz)) (F0 m9 220 ls [.int y37, .int (X9_does3S_x7 p1), .ref m]) := by
      intro y37 ey37 H locs ls G hl
      subst ey37
      have k40 : f30 m = some (.inr (11, [.int c_th, .int c_re, .ref v, .ref im, .ref kp, .ref pa, .ref de, .ref ide, .int c_un, .int c_hi, .ref tx, .int c_tn, .int c_fa, .int c_rf, .ref pt, .int c_ps, .int c_pl, .int c_to, .ref so, .ref mo, .ref wh, .ref pf])) := hup hf30 (hne k28 k29 (by intro q; cases q)) k28
      refine g_cI C0 G (g_runV C0 G (rest := []) (k_X9_retiresS hfl (X9_does3S_x7 p1) (X9_does3S_x8 p2) k40 k31 (by rw [X9_does3S_g6, upd_off (by omega)]; exact h4) hi (by rw [X9_does3S_g6, upd_off (by omega)]; exact h6) ha (by rw [X9_does3S_g6, upd_off (by omega)]; exact h7) hb2 (by rw [X9_does3S_g6, upd_off (by omega)]; exact h22) hs1 hs (by rw [X9_does3S_g6, upd_off (by omega)]; exact h1) he hie (fun q => by have e9 : (X9_does3S_g6 g d) 14 = g 14 := (by rw [X9_does3S_g6, upd_off (by omega)]); rw [e9]; exact hrr q) (by unfold X9_next_r1 X9_next_x0 X9_lowest_r0; rw [((by rw [X9_does3S_g6, upd_off (by omega)]) : (X9_does3S_g6 g d) 8 = g 8), ((by rw [X9_does3S_g6, upd_off (by omega)]) : (X9_does3S_g6 g d) (69 + 6 * (11 * i + 0) + 4) = g (69 + 6 * (11 * i + 0) + 4)), ((by rw [X9_does3S_g6, upd_off (by omega)]) : (X9_does3S_g6 g d) (69 + 6 * (11 * i + 1) + 4) = g (69 + 6 * (11 * i + 1) + 4)), ((by rw [X9_does3S_g6, upd_off (by omega)]) : (X9_does3S_g6 g d) (69 + 6 * (11 * i + 2) + 4) = g (69 + 6 * (11 * i + 2) + 4)), ((by rw [X9_does3S_g6, upd_off (by omega)]) : (X9_does3S_g6 g d) (69 + 6 * (11 * i + 3) + 4) = g (69 + 6 * (11 * i + 3) + 4)), ((by rw [X9_does3S_g6, upd_off (by omega)]) : (X9_does3S_g6 g d) (69 + 6 * (11 * i + 4) + 4) = g (69 + 6 * (11 * i + 4) + 4)), ((by rw [X9_does3S_g6, upd_off (by omega)]) : (X9_does3S_g6 g d) (69 + 6 * (11 * i + 5) + 4) = g (69 + 6 * (11 * i + 5) + 4)), ((by rw [X9_does3S_g6, upd_off (by omega)]) : (X9_does3S_g6 g d) (69 + 6 * (11 * i + 6) + 4) = g (69 + 6 * (11 * i + 6) + 4)), ((by rw [X9_does3S_g6, upd_off (by omega)]) : (X9_does3S_g6 g d) (69 + 6 * (11 * i + 7) + 4) = g (69 + 6 * (11 * i + 7) + 4)), ((by rw [X9_does3S_g6, upd_off (by omega)]) : (X9_does3S_g6 g d) (69 + 6 * (11 * i + 8) + 4) = g (69 + 6 * (11 * i + 8) + 4)), ((by rw [X9_does3S_g6, upd_off (by omega)]) : (X9_does3S_g6 g d) (69 + 6 * (11 * i + 9) + 4) = g (69 + 6 * (11 * i + 9) + 4)), ((by rw [X9_does3S_g6, upd_off (by omega)]) : (X9_does3S_g6 g d) (69 + 6 * (11 * i + 10) + 4) = g (69 + 6 * (11 * i + 10) + 4))]; exact hn) hnx (by repeat (first | exact Or.inl rfl | exact Or.inr rfl | assumption | split | unfold X9_does3S_x7 | unfold X9_does3S_x8)) (by repeat (first | exact Or.inl rfl | exact Or.inr rfl | assumption | split | unfold X9_does3S_x7 | unfold X9_does3S_x8))) k40 rfl hY_X9_retires mm_X9_132 mi_X9_retires ml_X9_retires ⟨(Nat.le_of_ble_eq_true rfl), (Nat.le_of_ble_eq_true rfl)⟩ rfl hl.1 rfl (Nat.le_of_ble_eq_true rfl) dX9_does_220 ⟨(Nat.le_of_ble_eq_true rfl), (Nat.le_of_ble_eq_true rfl)⟩) (kx_no rfl) (fun r43 u42 H locs hp41 G => ?_)
      obtain ⟨rfl, k44, fr45⟩ := hp41
      have k46 : u42 de = some (.inl (cy 0, 24000, .inl (X9_does3S_g5 p1 p2 p3 p4 p5 gd d))) := fr45 _ _ (by simp only [List.mem_cons, List.not_mem_nil, or_false]; intro q; exact (hne (hup hf30 (hne k27 k29 (by intro q; cases q)) k27) k31 (by intro q; cases q)) q) (hup hf30 (hne k27 k29 (by intro q; cases q)) k27)
      exact g_iret C0 G hr dX9_does_223 (Nat.le_of_ble_eq_true rfl) (Nat.le_of_ble_eq_true rfl) (by exact ⟨rfl, k46, (by rw [(by rw [X9_does3S_g9] : (X9_does3S_g9 g p1 p2 i a b2 s nx e d) = (X9_retiresS_g3 (X9_does3S_g6 g d) (X9_does3S_x7 p1) (X9_does3S_x8 p2) i a b2 s nx e))]; exact k44), (fun a9 e9 h7 h8 => fr45 _ _ (fun q => h7 (by simp only [List.mem_cons, List.not_mem_nil, or_false] at q ⊢; first | exact q | (rcases q with q <;> simp [q]) | omega)) (hup hf30 (fun q => h7 (by rw [q]; simp)) (hup hf26 (fun q => h7 (by rw [q]; simp)) (hup hf23 (fun q => h7 (by rw [q]; simp)) (hup hf20 (fun q => h7 (by rw [q]; simp)) (hup hf17 (fun q => h7 (by rw [q]; simp)) (hup hf14 (fun q => h7 (by rw [q]; simp)) (hup hf11 (fun q => h7 (by rw [q]; simp)) (h8)))))))))⟩)
    refine lv_icmp_ne (tgt := 219) hx hb dX9_does_212 (by decide) (fun c36 => ?_) (fun c36 => ?_)
    · refine lv_iconst (v := 0) hx hb dX9_does_219 (by decide) ?_
      exact J38 0 (by rw [X9_does3S_x8, if_neg c36]) _ _ _ G (lv_sub hl [0, 1, 2, 3, 4, 5, 6, 7] rfl)
    · refine lv_iconst (v := 1) hx hb dX9_does_215 (by decide) ?_
      refine lv_goto (tgt := 220) hx hb dX9_does_216 (by decide) ?_
      exact J38 1 (by rw [X9_does3S_x8, if_pos c36]) _ _ _ G (lv_sub hl [0, 1, 2, 3, 4, 5, 6, 7] rfl)
  refine lv_icmp_ne (tgt := 209) hx hb dX9_does_202 (by decide) (fun c32 => ?_) (fun c32 => ?_)
  · refine lv_iconst (v := 0) hx hb dX9_does_209 (by decide) ?_
    exact J34 0 (by rw [X9_does3S_x7, if_neg c32]) _ _ _ G (lv_sub hl [0, 1, 2, 3, 4, 5, 6, 7] rfl)
  · refine lv_iconst (v := 1) hx hb dX9_does_205 (by decide) ?_
    refine lv_goto (tgt := 210) hx hb dX9_does_206 (by decide) ?_
    exact J34 1 (by rw [X9_does3S_x7, if_pos c32]) _ _ _ G (lv_sub hl [0, 1, 2, 3, 4, 5, 6, 7] rfl)
def X9_does4_g0 (gd : Nat → Int32) (d : Nat) : Nat → Int32 := upd gd (6 * d) 4
def X9_does4_g1 (p1 : Nat) (gd : Nat → Int32) (d : Nat) : Nat → Int32 := upd (X9_does4_g0 gd d) (6 * d + 1) (nI p1)
def X9_does4_g2 (p1 : Nat) (p2 : Int32) (gd : Nat → Int32) (d : Nat) : Nat → Int32 := upd (X9_does4_g1 p1 gd d) (6 * d + 2) p2
def X9_does4_g3 (p1 : Nat) (p2 : Int32) (p3 : Int32) (gd : Nat → Int32) (d : Nat) : Nat → Int32 := upd (X9_does4_g2 p1 p2 gd d) (6 * d + 3) p3
def X9_does4_g4 (p1 : Nat) (p2 : Int32) (p3 : Int32) (p4 : Int32) (gd : Nat → Int32) (d : Nat) : Nat → Int32 := upd (X9_does4_g3 p1 p2 p3 gd d) (6 * d + 4) p4
def X9_does4_g5 (p1 : Nat) (p2 : Int32) (p3 : Int32) (p4 : Int32) (p5 : Int32) (gd : Nat → Int32) (d : Nat) : Nat → Int32 := upd (X9_does4_g4 p1 p2 p3 p4 gd d) (6 * d + 5) p5
def X9_does4_g6 (g : Nat → Int32) (d : Nat) : Nat → Int32 := upd g 23 (nI (d + 1))
def X9_does4_g7 (g : Nat → Int32) (p1 : Nat) (d : Nat) : Nat → Int32 := upd (X9_does4_g6 g d) 8 (nI p1)
def X9_does4_r8 (g : Nat → Int32) (i : Nat) (d : Nat) : Int32 := (X9_next_r1 (X9_does4_g6 g d) i)
set_option maxRecDepth 100000 in
theorem k_X9_does4 {l : Launch} (hfl : l.stackTraces = false) {D : va_G} {cy : Nat → ClassId} {f : Hf} {sz : Nat} {m : Nat} {v : Nat} {im : Nat} {kp : Nat} {pa : Nat} {de : Nat} {ide : Nat} {tx : Nat} {pt : Nat} {so : Nat} {mo : Nat} {wh : Nat} {pf : Nat} {c_th : Int32} {c_re : Int32} {c_un : Int32} {c_hi : Int32} {c_tn : Int32} {c_fa : Int32} {c_rf : Int32} {c_ps : Int32} {c_pl : Int32} {c_to : Int32} {g : Nat → Int32} {p1 : Nat} (p2 : Int32) (p3 : Int32) (p4 : Int32) (p5 : Int32) {gd : Nat → Int32} {i : Nat} {d : Nat} (h_m : f m = some (.inr (11, [.int c_th, .int c_re, .ref v, .ref im, .ref kp, .ref pa, .ref de, .ref ide, .int c_un, .int c_hi, .ref tx, .int c_tn, .int c_fa, .int c_rf, .ref pt, .int c_ps, .int c_pl, .int c_to, .ref so, .ref mo, .ref wh, .ref pf]))) (h_v : f v = some (.inl (cy 0, 6441, .inl g))) (h_de : f de = some (.inl (cy 0, 24000, .inl gd))) (h4 : g 4 = nI i) (hi : i < 4) (h23 : g 23 = nI d) (hd : d < 4000) (hp : p1 < 11) : hMet l yX9_does cX9_does 9 (some .int) { frames := 3, cells := 0, slots := 0, locals := 65 } D (hTy cy) f sz [.ref m, .int 4, .int (nI p1), .int p2, .int p3, .int p4, .int p5] (hQi (fun r u => r = (X9_does4_r8 g i d) ∧ u de = some (.inl (cy 0, 24000, .inl (X9_does4_g5 p1 p2 p3 p4 p5 gd d))) ∧ u v = some (.inl (cy 0, 6441, .inl (X9_does4_g7 g p1 d))) ∧ hFrL f u [de, v]) D f sz) hNo := by
  refine h_enter (by decide) hfl (Nat.le_of_ble_eq_true rfl) ?_
  intro p9 e9 s9 m9 b9 t9 c9 hsz C0 hr hnm G ls hl
  have hx := C0.1.1
  have hb := C0.1.2.1
  have hl : lv_has ls 9 [(0, .ref m), (1, .int 4), (2, .int (nI p1)), (3, .int p2), (4, .int p3), (5, .int p4), (6, .int p5)] := hl
  refine lv_bipush (v := 6) hx hb dX9_does_0 (by decide) ?_
  refine lv_aload_n hx hb dX9_does_2 rfl (lv_at hl 0 rfl) ?_
  refine g_get C0 G h_m rfl hiX9 2 (by decide) mf_X9_9 rfl dX9_does_3 ?_
  refine lv_bipush (v := 23) hx hb dX9_does_6 (by decide) ?_
  refine g_iald C0 G h_v 0 rfl (by unfold vp_in; decide) dX9_does_8 ?_
  refine lv_topv (v := g 23) rfl ?_
  refine lv_topv (v := nI d) (h23) ?_
  refine lv_imul hx hb dX9_does_9 ?_
  refine lv_topv (v := nI (6 * d)) ((pk_mul _ _)) ?_
  refine lv_istore (lv' := [(7, .int (nI (6 * d))), (0, .ref m), (1, .int 4), (2, .int (nI p1)), (3, .int p2), (4, .int p3), (5, .int p4), (6, .int p5)]) hx hb dX9_does_10 hl (by decide) rfl (fun ls hl => ?_)
  refine lv_aload_n hx hb dX9_does_12 rfl (lv_at hl 1 rfl) ?_
  refine g_get C0 G h_m rfl hiX9 6 (by decide) mf_X9_23 rfl dX9_does_13 ?_
  refine lv_iload hx hb dX9_does_16 (lv_at hl 0 rfl) ?_
  refine lv_iload_n hx hb dX9_does_18 rfl (lv_at hl 2 rfl) ?_
  refine g_iast C0 G h_de 0 rfl (vp_in_nI (by omega) (by omega)) dX9_does_19 (fun H locs f11 hf11 G => ?_)
  have k12 : f11 de = some (.inl (cy 0, 24000, .inl (X9_does4_g0 gd d))) := (by have h9 := hus hf11; rw [nI_c (by omega)] at h9; exact h9)
  refine lv_aload_n hx hb dX9_does_20 rfl (lv_at hl 1 rfl) ?_
  have k13 : f11 m = some (.inr (11, [.int c_th, .int c_re, .ref v, .ref im, .ref kp, .ref pa, .ref de, .ref ide, .int c_un, .int c_hi, .ref tx, .int c_tn, .int c_fa, .int c_rf, .ref pt, .int c_ps, .int c_pl, .int c_to, .ref so, .ref mo, .ref wh, .ref pf])) := hup hf11 (hne h_m h_de (by intro q; cases q)) h_m
  refine g_get C0 G k13 rfl hiX9 6 (by decide) mf_X9_23 rfl dX9_does_21 ?_
  refine lv_iload hx hb dX9_does_24 (lv_at hl 0 rfl) ?_
  refine lv_iconst (v := 1) hx hb dX9_does_26 (by decide) ?_
  refine lv_iadd hx hb dX9_does_27 ?_
  refine lv_topv (v := nI (6 * d + 1)) ((nI_add _ _)) ?_
  refine lv_iload_n hx hb dX9_does_28 rfl (lv_at hl 3 rfl) ?_
  refine g_iast C0 G k12 0 rfl (vp_in_nI (by omega) (by omega)) dX9_does_29 (fun H locs f14 hf14 G => ?_)
  have k15 : f14 de = some (.inl (cy 0, 24000, .inl (X9_does4_g1 p1 gd d))) := (by have h9 := hus hf14; rw [nI_c (by omega)] at h9; exact h9)
  refine lv_aload_n hx hb dX9_does_30 rfl (lv_at hl 1 rfl) ?_
  have k16 : f14 m = some (.inr (11, [.int c_th, .int c_re, .ref v, .ref im, .ref kp, .ref pa, .ref de, .ref ide, .int c_un, .int c_hi, .ref tx, .int c_tn, .int c_fa, .int c_rf, .ref pt, .int c_ps, .int c_pl, .int c_to, .ref so, .ref mo, .ref wh, .ref pf])) := hup hf14 (hne k13 k12 (by intro q; cases q)) k13
  refine g_get C0 G k16 rfl hiX9 6 (by decide) mf_X9_23 rfl dX9_does_31 ?_
  refine lv_iload hx hb dX9_does_34 (lv_at hl 0 rfl) ?_
  refine lv_iconst (v := 2) hx hb dX9_does_36 (by decide) ?_
  refine lv_iadd hx hb dX9_does_37 ?_
  refine lv_topv (v := nI (6 * d + 2)) ((nI_add _ _)) ?_
  refine lv_iload_n hx hb dX9_does_38 rfl (lv_at hl 4 rfl) ?_
  refine g_iast C0 G k15 0 rfl (vp_in_nI (by omega) (by omega)) dX9_does_39 (fun H locs f17 hf17 G => ?_)
  have k18 : f17 de = some (.inl (cy 0, 24000, .inl (X9_does4_g2 p1 p2 gd d))) := (by have h9 := hus hf17; rw [nI_c (by omega)] at h9; exact h9)
  refine lv_aload_n hx hb dX9_does_40 rfl (lv_at hl 1 rfl) ?_
  have k19 : f17 m = some (.inr (11, [.int c_th, .int c_re, .ref v, .ref im, .ref kp, .ref pa, .ref de, .ref ide, .int c_un, .int c_hi, .ref tx, .int c_tn, .int c_fa, .int c_rf, .ref pt, .int c_ps, .int c_pl, .int c_to, .ref so, .ref mo, .ref wh, .ref pf])) := hup hf17 (hne k16 k15 (by intro q; cases q)) k16
  refine g_get C0 G k19 rfl hiX9 6 (by decide) mf_X9_23 rfl dX9_does_41 ?_
  refine lv_iload hx hb dX9_does_44 (lv_at hl 0 rfl) ?_
  refine lv_iconst (v := 3) hx hb dX9_does_46 (by decide) ?_
  refine lv_iadd hx hb dX9_does_47 ?_
  refine lv_topv (v := nI (6 * d + 3)) ((nI_add _ _)) ?_
  refine lv_iload hx hb dX9_does_48 (lv_at hl 5 rfl) ?_
  refine g_iast C0 G k18 0 rfl (vp_in_nI (by omega) (by omega)) dX9_does_50 (fun H locs f20 hf20 G => ?_)
  have k21 : f20 de = some (.inl (cy 0, 24000, .inl (X9_does4_g3 p1 p2 p3 gd d))) := (by have h9 := hus hf20; rw [nI_c (by omega)] at h9; exact h9)
  refine lv_aload_n hx hb dX9_does_51 rfl (lv_at hl 1 rfl) ?_
  have k22 : f20 m = some (.inr (11, [.int c_th, .int c_re, .ref v, .ref im, .ref kp, .ref pa, .ref de, .ref ide, .int c_un, .int c_hi, .ref tx, .int c_tn, .int c_fa, .int c_rf, .ref pt, .int c_ps, .int c_pl, .int c_to, .ref so, .ref mo, .ref wh, .ref pf])) := hup hf20 (hne k19 k18 (by intro q; cases q)) k19
  refine g_get C0 G k22 rfl hiX9 6 (by decide) mf_X9_23 rfl dX9_does_52 ?_
  refine lv_iload hx hb dX9_does_55 (lv_at hl 0 rfl) ?_
  refine lv_iconst (v := 4) hx hb dX9_does_57 (by decide) ?_
  refine lv_iadd hx hb dX9_does_58 ?_
  refine lv_topv (v := nI (6 * d + 4)) ((nI_add _ _)) ?_
  refine lv_iload hx hb dX9_does_59 (lv_at hl 6 rfl) ?_
  refine g_iast C0 G k21 0 rfl (vp_in_nI (by omega) (by omega)) dX9_does_61 (fun H locs f23 hf23 G => ?_)
  have k24 : f23 de = some (.inl (cy 0, 24000, .inl (X9_does4_g4 p1 p2 p3 p4 gd d))) := (by have h9 := hus hf23; rw [nI_c (by omega)] at h9; exact h9)
  refine lv_aload_n hx hb dX9_does_62 rfl (lv_at hl 1 rfl) ?_
  have k25 : f23 m = some (.inr (11, [.int c_th, .int c_re, .ref v, .ref im, .ref kp, .ref pa, .ref de, .ref ide, .int c_un, .int c_hi, .ref tx, .int c_tn, .int c_fa, .int c_rf, .ref pt, .int c_ps, .int c_pl, .int c_to, .ref so, .ref mo, .ref wh, .ref pf])) := hup hf23 (hne k22 k21 (by intro q; cases q)) k22
  refine g_get C0 G k25 rfl hiX9 6 (by decide) mf_X9_23 rfl dX9_does_63 ?_
  refine lv_iload hx hb dX9_does_66 (lv_at hl 0 rfl) ?_
  refine lv_iconst (v := 5) hx hb dX9_does_68 (by decide) ?_
  refine lv_iadd hx hb dX9_does_69 ?_
  refine lv_topv (v := nI (6 * d + 5)) ((nI_add _ _)) ?_
  refine lv_iload hx hb dX9_does_70 (lv_at hl 7 rfl) ?_
  refine g_iast C0 G k24 0 rfl (vp_in_nI (by omega) (by omega)) dX9_does_72 (fun H locs f26 hf26 G => ?_)
  have k27 : f26 de = some (.inl (cy 0, 24000, .inl (X9_does4_g5 p1 p2 p3 p4 p5 gd d))) := (by have h9 := hus hf26; rw [nI_c (by omega)] at h9; exact h9)
  refine lv_aload_n hx hb dX9_does_73 rfl (lv_at hl 1 rfl) ?_
  have k28 : f26 m = some (.inr (11, [.int c_th, .int c_re, .ref v, .ref im, .ref kp, .ref pa, .ref de, .ref ide, .int c_un, .int c_hi, .ref tx, .int c_tn, .int c_fa, .int c_rf, .ref pt, .int c_ps, .int c_pl, .int c_to, .ref so, .ref mo, .ref wh, .ref pf])) := hup hf26 (hne k25 k24 (by intro q; cases q)) k25
  refine g_get C0 G k28 rfl hiX9 2 (by decide) mf_X9_9 rfl dX9_does_74 ?_
  refine lv_bipush (v := 23) hx hb dX9_does_77 (by decide) ?_
  refine lv_dup2_11 hx hb dX9_does_79 rfl rfl ?_
  have k29 : f26 v = some (.inl (cy 0, 6441, .inl g)) := hup hf26 (hne (hup hf23 (hne (hup hf20 (hne (hup hf17 (hne (hup hf14 (hne (hup hf11 (hne h_v h_de (by intro q; cases q)) h_v) k12 (by intro q; cases q)) (hup hf11 (hne h_v h_de (by intro q; cases q)) h_v)) k15 (by intro q; cases q)) (hup hf14 (hne (hup hf11 (hne h_v h_de (by intro q; cases q)) h_v) k12 (by intro q; cases q)) (hup hf11 (hne h_v h_de (by intro q; cases q)) h_v))) k18 (by intro q; cases q)) (hup hf17 (hne (hup hf14 (hne (hup hf11 (hne h_v h_de (by intro q; cases q)) h_v) k12 (by intro q; cases q)) (hup hf11 (hne h_v h_de (by intro q; cases q)) h_v)) k15 (by intro q; cases q)) (hup hf14 (hne (hup hf11 (hne h_v h_de (by intro q; cases q)) h_v) k12 (by intro q; cases q)) (hup hf11 (hne h_v h_de (by intro q; cases q)) h_v)))) k21 (by intro q; cases q)) (hup hf20 (hne (hup hf17 (hne (hup hf14 (hne (hup hf11 (hne h_v h_de (by intro q; cases q)) h_v) k12 (by intro q; cases q)) (hup hf11 (hne h_v h_de (by intro q; cases q)) h_v)) k15 (by intro q; cases q)) (hup hf14 (hne (hup hf11 (hne h_v h_de (by intro q; cases q)) h_v) k12 (by intro q; cases q)) (hup hf11 (hne h_v h_de (by intro q; cases q)) h_v))) k18 (by intro q; cases q)) (hup hf17 (hne (hup hf14 (hne (hup hf11 (hne h_v h_de (by intro q; cases q)) h_v) k12 (by intro q; cases q)) (hup hf11 (hne h_v h_de (by intro q; cases q)) h_v)) k15 (by intro q; cases q)) (hup hf14 (hne (hup hf11 (hne h_v h_de (by intro q; cases q)) h_v) k12 (by intro q; cases q)) (hup hf11 (hne h_v h_de (by intro q; cases q)) h_v))))) k24 (by intro q; cases q)) (hup hf23 (hne (hup hf20 (hne (hup hf17 (hne (hup hf14 (hne (hup hf11 (hne h_v h_de (by intro q; cases q)) h_v) k12 (by intro q; cases q)) (hup hf11 (hne h_v h_de (by intro q; cases q)) h_v)) k15 (by intro q; cases q)) (hup hf14 (hne (hup hf11 (hne h_v h_de (by intro q; cases q)) h_v) k12 (by intro q; cases q)) (hup hf11 (hne h_v h_de (by intro q; cases q)) h_v))) k18 (by intro q; cases q)) (hup hf17 (hne (hup hf14 (hne (hup hf11 (hne h_v h_de (by intro q; cases q)) h_v) k12 (by intro q; cases q)) (hup hf11 (hne h_v h_de (by intro q; cases q)) h_v)) k15 (by intro q; cases q)) (hup hf14 (hne (hup hf11 (hne h_v h_de (by intro q; cases q)) h_v) k12 (by intro q; cases q)) (hup hf11 (hne h_v h_de (by intro q; cases q)) h_v)))) k21 (by intro q; cases q)) (hup hf20 (hne (hup hf17 (hne (hup hf14 (hne (hup hf11 (hne h_v h_de (by intro q; cases q)) h_v) k12 (by intro q; cases q)) (hup hf11 (hne h_v h_de (by intro q; cases q)) h_v)) k15 (by intro q; cases q)) (hup hf14 (hne (hup hf11 (hne h_v h_de (by intro q; cases q)) h_v) k12 (by intro q; cases q)) (hup hf11 (hne h_v h_de (by intro q; cases q)) h_v))) k18 (by intro q; cases q)) (hup hf17 (hne (hup hf14 (hne (hup hf11 (hne h_v h_de (by intro q; cases q)) h_v) k12 (by intro q; cases q)) (hup hf11 (hne h_v h_de (by intro q; cases q)) h_v)) k15 (by intro q; cases q)) (hup hf14 (hne (hup hf11 (hne h_v h_de (by intro q; cases q)) h_v) k12 (by intro q; cases q)) (hup hf11 (hne h_v h_de (by intro q; cases q)) h_v)))))
  refine g_iald C0 G k29 0 rfl (by unfold vp_in; decide) dX9_does_80 ?_
  refine lv_topv (v := g 23) rfl ?_
  refine lv_topv (v := nI d) (h23) ?_
  refine lv_iconst (v := 1) hx hb dX9_does_81 (by decide) ?_
  refine lv_iadd hx hb dX9_does_82 ?_
  refine lv_topv (v := nI (d + 1)) ((nI_add _ _)) ?_
  refine g_iast C0 G k29 0 rfl (by unfold vp_in; decide) dX9_does_83 (fun H locs f30 hf30 G => ?_)
  have k31 : f30 v = some (.inl (cy 0, 6441, .inl (X9_does4_g6 g d))) := hus hf30
  refine lv_iload_n hx hb dX9_does_84 rfl (lv_at hl 2 rfl) ?_
  refine lv_tableIn (off := 139) (tgt := 224) hx hb dX9_does_85 (by decide) (by decide) rfl (by decide) ?_
  refine lv_aload_n hx hb dX9_does_224 rfl (lv_at hl 1 rfl) ?_
  have k32 : f30 m = some (.inr (11, [.int c_th, .int c_re, .ref v, .ref im, .ref kp, .ref pa, .ref de, .ref ide, .int c_un, .int c_hi, .ref tx, .int c_tn, .int c_fa, .int c_rf, .ref pt, .int c_ps, .int c_pl, .int c_to, .ref so, .ref mo, .ref wh, .ref pf])) := hup hf30 (hne k28 k29 (by intro q; cases q)) k28
  refine g_cI C0 G (g_runV C0 G (rest := []) (k_X9_next hfl k32 k31 (by rw [X9_does4_g6, upd_off (by omega)]; exact h4) hi) k32 rfl hY_X9_next mm_X9_136 mi_X9_next ml_X9_next ⟨(Nat.le_of_ble_eq_true rfl), (Nat.le_of_ble_eq_true rfl)⟩ rfl hl.1 rfl (Nat.le_of_ble_eq_true rfl) dX9_does_225 ⟨(Nat.le_of_ble_eq_true rfl), (Nat.le_of_ble_eq_true rfl)⟩) (kx_no rfl) (fun r35 u34 H locs hp33 G => ?_)
  obtain ⟨rfl, eu34⟩ := hp33
  rw [eu34] at G
  refine lv_istore (lv' := [(8, .int (X9_next_r1 (X9_does4_g6 g d) i)), (7, .int (nI (6 * d))), (0, .ref m), (1, .int 4), (2, .int (nI p1)), (3, .int p2), (4, .int p3), (5, .int p4), (6, .int p5)]) hx hb dX9_does_228 hl (by decide) rfl (fun ls hl => ?_)
  refine lv_aload_n hx hb dX9_does_230 rfl (lv_at hl 2 rfl) ?_
  refine g_get C0 G k32 rfl hiX9 2 (by decide) mf_X9_9 rfl dX9_does_231 ?_
  refine lv_bipush (v := 8) hx hb dX9_does_234 (by decide) ?_
  refine lv_iload_n hx hb dX9_does_236 rfl (lv_at hl 4 rfl) ?_
  refine g_iast C0 G k31 0 rfl (by unfold vp_in; decide) dX9_does_237 (fun H locs f36 hf36 G => ?_)
  have k37 : f36 v = some (.inl (cy 0, 6441, .inl (X9_does4_g7 g p1 d))) := hus hf36
  refine lv_iload hx hb dX9_does_238 (lv_at hl 0 rfl) ?_
  have k38 : f36 de = some (.inl (cy 0, 24000, .inl (X9_does4_g5 p1 p2 p3 p4 p5 gd d))) := hup hf36 (hne (hup hf30 (hne k27 k29 (by intro q; cases q)) k27) k31 (by intro q; cases q)) (hup hf30 (hne k27 k29 (by intro q; cases q)) k27)
  exact g_iret C0 G hr dX9_does_240 (Nat.le_of_ble_eq_true rfl) (Nat.le_of_ble_eq_true rfl) (by exact ⟨(by rw [X9_does4_r8]), k38, k37, (fun a9 e9 h7 h8 => hup hf36 (fun q => h7 (by rw [q]; simp)) (hup hf30 (fun q => h7 (by rw [q]; simp)) (hup hf26 (fun q => h7 (by rw [q]; simp)) (hup hf23 (fun q => h7 (by rw [q]; simp)) (hup hf20 (fun q => h7 (by rw [q]; simp)) (hup hf17 (fun q => h7 (by rw [q]; simp)) (hup hf14 (fun q => h7 (by rw [q]; simp)) (hup hf11 (fun q => h7 (by rw [q]; simp)) (h8)))))))))⟩)
def X9_does5_g0 (gd : Nat → Int32) (d : Nat) : Nat → Int32 := upd gd (6 * d) 5
def X9_does5_g1 (p1 : Int32) (gd : Nat → Int32) (d : Nat) : Nat → Int32 := upd (X9_does5_g0 gd d) (6 * d + 1) p1
def X9_does5_g2 (p1 : Int32) (p2 : Int32) (gd : Nat → Int32) (d : Nat) : Nat → Int32 := upd (X9_does5_g1 p1 gd d) (6 * d + 2) p2
def X9_does5_g3 (p1 : Int32) (p2 : Int32) (p3 : Int32) (gd : Nat → Int32) (d : Nat) : Nat → Int32 := upd (X9_does5_g2 p1 p2 gd d) (6 * d + 3) p3
def X9_does5_g4 (p1 : Int32) (p2 : Int32) (p3 : Int32) (p4 : Int32) (gd : Nat → Int32) (d : Nat) : Nat → Int32 := upd (X9_does5_g3 p1 p2 p3 gd d) (6 * d + 4) p4
def X9_does5_g5 (p1 : Int32) (p2 : Int32) (p3 : Int32) (p4 : Int32) (p5 : Int32) (gd : Nat → Int32) (d : Nat) : Nat → Int32 := upd (X9_does5_g4 p1 p2 p3 p4 gd d) (6 * d + 5) p5
def X9_does5_g6 (g : Nat → Int32) (d : Nat) : Nat → Int32 := upd g 23 (nI (d + 1))
def X9_does5_r7 (g : Nat → Int32) (i : Nat) (d : Nat) : Int32 := (X9_does5_g6 g d) (25 + 11 * i + 0)
def X9_does5_g8 (g : Nat → Int32) (i : Nat) (s : Nat) (e : Nat) (d : Nat) : Nat → Int32 := (X9_looks_g11 (X9_does5_g6 g d) 0 1 i e s)
set_option maxRecDepth 100000 in
theorem k_X9_does5 {l : Launch} (hfl : l.stackTraces = false) {D : va_G} {cy : Nat → ClassId} {f : Hf} {sz : Nat} {m : Nat} {v : Nat} {im : Nat} {kp : Nat} {pa : Nat} {de : Nat} {ide : Nat} {tx : Nat} {pt : Nat} {so : Nat} {mo : Nat} {wh : Nat} {pf : Nat} {c_th : Int32} {c_re : Int32} {c_un : Int32} {c_hi : Int32} {c_tn : Int32} {c_fa : Int32} {c_rf : Int32} {c_ps : Int32} {c_pl : Int32} {c_to : Int32} {g : Nat → Int32} (p1 : Int32) (p2 : Int32) (p3 : Int32) (p4 : Int32) (p5 : Int32) {gd : Nat → Int32} {i : Nat} {s : Nat} {e : Nat} {d : Nat} (h_m : f m = some (.inr (11, [.int c_th, .int c_re, .ref v, .ref im, .ref kp, .ref pa, .ref de, .ref ide, .int c_un, .int c_hi, .ref tx, .int c_tn, .int c_fa, .int c_rf, .ref pt, .int c_ps, .int c_pl, .int c_to, .ref so, .ref mo, .ref wh, .ref pf]))) (h_v : f v = some (.inl (cy 0, 6441, .inl g))) (h_de : f de = some (.inl (cy 0, 24000, .inl gd))) (h4 : g 4 = nI i) (hi : i < 4) (h22 : g 22 = nI s) (hs1 : 1 ≤ s) (hs : s < 699) (h1 : g 1 = nI e) (he : e = 1 ∨ e = 2) (hie : i + 1 ≤ 2 * e) (hrr : i + 1 = 2 * e → e = 2 ∨ ¬ (g 14).toInt64 = 0) (h23 : g 23 = nI d) (hd : d < 4000) : hMet l yX9_does cX9_does 9 (some .int) { frames := 3, cells := 0, slots := 0, locals := 71 } D (hTy cy) f sz [.ref m, .int 5, .int p1, .int p2, .int p3, .int p4, .int p5] (hQi (fun r u => r = (X9_does5_r7 g i d) ∧ u de = some (.inl (cy 0, 24000, .inl (X9_does5_g5 p1 p2 p3 p4 p5 gd d))) ∧ u v = some (.inl (cy 0, 6441, .inl (X9_does5_g8 g i s e d))) ∧ hFrL f u [de, v]) D f sz) hNo := by
  refine h_enter (by decide) hfl (Nat.le_of_ble_eq_true rfl) ?_
  intro p9 e9 s9 m9 b9 t9 c9 hsz C0 hr hnm G ls hl
  have hx := C0.1.1
  have hb := C0.1.2.1
  have hl : lv_has ls 9 [(0, .ref m), (1, .int 5), (2, .int p1), (3, .int p2), (4, .int p3), (5, .int p4), (6, .int p5)] := hl
  refine lv_bipush (v := 6) hx hb dX9_does_0 (by decide) ?_
  refine lv_aload_n hx hb dX9_does_2 rfl (lv_at hl 0 rfl) ?_
  refine g_get C0 G h_m rfl hiX9 2 (by decide) mf_X9_9 rfl dX9_does_3 ?_
  refine lv_bipush (v := 23) hx hb dX9_does_6 (by decide) ?_
  refine g_iald C0 G h_v 0 rfl (by unfold vp_in; decide) dX9_does_8 ?_
  refine lv_topv (v := g 23) rfl ?_
  refine lv_topv (v := nI d) (h23) ?_
  refine lv_imul hx hb dX9_does_9 ?_
  refine lv_topv (v := nI (6 * d)) ((pk_mul _ _)) ?_
  refine lv_istore (lv' := [(7, .int (nI (6 * d))), (0, .ref m), (1, .int 5), (2, .int p1), (3, .int p2), (4, .int p3), (5, .int p4), (6, .int p5)]) hx hb dX9_does_10 hl (by decide) rfl (fun ls hl => ?_)
  refine lv_aload_n hx hb dX9_does_12 rfl (lv_at hl 1 rfl) ?_
  refine g_get C0 G h_m rfl hiX9 6 (by decide) mf_X9_23 rfl dX9_does_13 ?_
  refine lv_iload hx hb dX9_does_16 (lv_at hl 0 rfl) ?_
  refine lv_iload_n hx hb dX9_does_18 rfl (lv_at hl 2 rfl) ?_
  refine g_iast C0 G h_de 0 rfl (vp_in_nI (by omega) (by omega)) dX9_does_19 (fun H locs f11 hf11 G => ?_)
  have k12 : f11 de = some (.inl (cy 0, 24000, .inl (X9_does5_g0 gd d))) := (by have h9 := hus hf11; rw [nI_c (by omega)] at h9; exact h9)
  refine lv_aload_n hx hb dX9_does_20 rfl (lv_at hl 1 rfl) ?_
  have k13 : f11 m = some (.inr (11, [.int c_th, .int c_re, .ref v, .ref im, .ref kp, .ref pa, .ref de, .ref ide, .int c_un, .int c_hi, .ref tx, .int c_tn, .int c_fa, .int c_rf, .ref pt, .int c_ps, .int c_pl, .int c_to, .ref so, .ref mo, .ref wh, .ref pf])) := hup hf11 (hne h_m h_de (by intro q; cases q)) h_m
  refine g_get C0 G k13 rfl hiX9 6 (by decide) mf_X9_23 rfl dX9_does_21 ?_
  refine lv_iload hx hb dX9_does_24 (lv_at hl 0 rfl) ?_
  refine lv_iconst (v := 1) hx hb dX9_does_26 (by decide) ?_
  refine lv_iadd hx hb dX9_does_27 ?_
  refine lv_topv (v := nI (6 * d + 1)) ((nI_add _ _)) ?_
  refine lv_iload_n hx hb dX9_does_28 rfl (lv_at hl 3 rfl) ?_
  refine g_iast C0 G k12 0 rfl (vp_in_nI (by omega) (by omega)) dX9_does_29 (fun H locs f14 hf14 G => ?_)
  have k15 : f14 de = some (.inl (cy 0, 24000, .inl (X9_does5_g1 p1 gd d))) := (by have h9 := hus hf14; rw [nI_c (by omega)] at h9; exact h9)
  refine lv_aload_n hx hb dX9_does_30 rfl (lv_at hl 1 rfl) ?_
  have k16 : f14 m = some (.inr (11, [.int c_th, .int c_re, .ref v, .ref im, .ref kp, .ref pa, .ref de, .ref ide, .int c_un, .int c_hi, .ref tx, .int c_tn, .int c_fa, .int c_rf, .ref pt, .int c_ps, .int c_pl, .int c_to, .ref so, .ref mo, .ref wh, .ref pf])) := hup hf14 (hne k13 k12 (by intro q; cases q)) k13
  refine g_get C0 G k16 rfl hiX9 6 (by decide) mf_X9_23 rfl dX9_does_31 ?_
  refine lv_iload hx hb dX9_does_34 (lv_at hl 0 rfl) ?_
  refine lv_iconst (v := 2) hx hb dX9_does_36 (by decide) ?_
  refine lv_iadd hx hb dX9_does_37 ?_
  refine lv_topv (v := nI (6 * d + 2)) ((nI_add _ _)) ?_
  refine lv_iload_n hx hb dX9_does_38 rfl (lv_at hl 4 rfl) ?_
  refine g_iast C0 G k15 0 rfl (vp_in_nI (by omega) (by omega)) dX9_does_39 (fun H locs f17 hf17 G => ?_)
  have k18 : f17 de = some (.inl (cy 0, 24000, .inl (X9_does5_g2 p1 p2 gd d))) := (by have h9 := hus hf17; rw [nI_c (by omega)] at h9; exact h9)
  refine lv_aload_n hx hb dX9_does_40 rfl (lv_at hl 1 rfl) ?_
  have k19 : f17 m = some (.inr (11, [.int c_th, .int c_re, .ref v, .ref im, .ref kp, .ref pa, .ref de, .ref ide, .int c_un, .int c_hi, .ref tx, .int c_tn, .int c_fa, .int c_rf, .ref pt, .int c_ps, .int c_pl, .int c_to, .ref so, .ref mo, .ref wh, .ref pf])) := hup hf17 (hne k16 k15 (by intro q; cases q)) k16
  refine g_get C0 G k19 rfl hiX9 6 (by decide) mf_X9_23 rfl dX9_does_41 ?_
  refine lv_iload hx hb dX9_does_44 (lv_at hl 0 rfl) ?_
  refine lv_iconst (v := 3) hx hb dX9_does_46 (by decide) ?_
  refine lv_iadd hx hb dX9_does_47 ?_
  refine lv_topv (v := nI (6 * d + 3)) ((nI_add _ _)) ?_
  refine lv_iload hx hb dX9_does_48 (lv_at hl 5 rfl) ?_
  refine g_iast C0 G k18 0 rfl (vp_in_nI (by omega) (by omega)) dX9_does_50 (fun H locs f20 hf20 G => ?_)
  have k21 : f20 de = some (.inl (cy 0, 24000, .inl (X9_does5_g3 p1 p2 p3 gd d))) := (by have h9 := hus hf20; rw [nI_c (by omega)] at h9; exact h9)
  refine lv_aload_n hx hb dX9_does_51 rfl (lv_at hl 1 rfl) ?_
  have k22 : f20 m = some (.inr (11, [.int c_th, .int c_re, .ref v, .ref im, .ref kp, .ref pa, .ref de, .ref ide, .int c_un, .int c_hi, .ref tx, .int c_tn, .int c_fa, .int c_rf, .ref pt, .int c_ps, .int c_pl, .int c_to, .ref so, .ref mo, .ref wh, .ref pf])) := hup hf20 (hne k19 k18 (by intro q; cases q)) k19
  refine g_get C0 G k22 rfl hiX9 6 (by decide) mf_X9_23 rfl dX9_does_52 ?_
  refine lv_iload hx hb dX9_does_55 (lv_at hl 0 rfl) ?_
  refine lv_iconst (v := 4) hx hb dX9_does_57 (by decide) ?_
  refine lv_iadd hx hb dX9_does_58 ?_
  refine lv_topv (v := nI (6 * d + 4)) ((nI_add _ _)) ?_
  refine lv_iload hx hb dX9_does_59 (lv_at hl 6 rfl) ?_
  refine g_iast C0 G k21 0 rfl (vp_in_nI (by omega) (by omega)) dX9_does_61 (fun H locs f23 hf23 G => ?_)
  have k24 : f23 de = some (.inl (cy 0, 24000, .inl (X9_does5_g4 p1 p2 p3 p4 gd d))) := (by have h9 := hus hf23; rw [nI_c (by omega)] at h9; exact h9)
  refine lv_aload_n hx hb dX9_does_62 rfl (lv_at hl 1 rfl) ?_
  have k25 : f23 m = some (.inr (11, [.int c_th, .int c_re, .ref v, .ref im, .ref kp, .ref pa, .ref de, .ref ide, .int c_un, .int c_hi, .ref tx, .int c_tn, .int c_fa, .int c_rf, .ref pt, .int c_ps, .int c_pl, .int c_to, .ref so, .ref mo, .ref wh, .ref pf])) := hup hf23 (hne k22 k21 (by intro q; cases q)) k22
  refine g_get C0 G k25 rfl hiX9 6 (by decide) mf_X9_23 rfl dX9_does_63 ?_
  refine lv_iload hx hb dX9_does_66 (lv_at hl 0 rfl) ?_
  refine lv_iconst (v := 5) hx hb dX9_does_68 (by decide) ?_
  refine lv_iadd hx hb dX9_does_69 ?_
  refine lv_topv (v := nI (6 * d + 5)) ((nI_add _ _)) ?_
  refine lv_iload hx hb dX9_does_70 (lv_at hl 7 rfl) ?_
  refine g_iast C0 G k24 0 rfl (vp_in_nI (by omega) (by omega)) dX9_does_72 (fun H locs f26 hf26 G => ?_)
  have k27 : f26 de = some (.inl (cy 0, 24000, .inl (X9_does5_g5 p1 p2 p3 p4 p5 gd d))) := (by have h9 := hus hf26; rw [nI_c (by omega)] at h9; exact h9)
  refine lv_aload_n hx hb dX9_does_73 rfl (lv_at hl 1 rfl) ?_
  have k28 : f26 m = some (.inr (11, [.int c_th, .int c_re, .ref v, .ref im, .ref kp, .ref pa, .ref de, .ref ide, .int c_un, .int c_hi, .ref tx, .int c_tn, .int c_fa, .int c_rf, .ref pt, .int c_ps, .int c_pl, .int c_to, .ref so, .ref mo, .ref wh, .ref pf])) := hup hf26 (hne k25 k24 (by intro q; cases q)) k25
  refine g_get C0 G k28 rfl hiX9 2 (by decide) mf_X9_9 rfl dX9_does_74 ?_
  refine lv_bipush (v := 23) hx hb dX9_does_77 (by decide) ?_
  refine lv_dup2_11 hx hb dX9_does_79 rfl rfl ?_
  have k29 : f26 v = some (.inl (cy 0, 6441, .inl g)) := hup hf26 (hne (hup hf23 (hne (hup hf20 (hne (hup hf17 (hne (hup hf14 (hne (hup hf11 (hne h_v h_de (by intro q; cases q)) h_v) k12 (by intro q; cases q)) (hup hf11 (hne h_v h_de (by intro q; cases q)) h_v)) k15 (by intro q; cases q)) (hup hf14 (hne (hup hf11 (hne h_v h_de (by intro q; cases q)) h_v) k12 (by intro q; cases q)) (hup hf11 (hne h_v h_de (by intro q; cases q)) h_v))) k18 (by intro q; cases q)) (hup hf17 (hne (hup hf14 (hne (hup hf11 (hne h_v h_de (by intro q; cases q)) h_v) k12 (by intro q; cases q)) (hup hf11 (hne h_v h_de (by intro q; cases q)) h_v)) k15 (by intro q; cases q)) (hup hf14 (hne (hup hf11 (hne h_v h_de (by intro q; cases q)) h_v) k12 (by intro q; cases q)) (hup hf11 (hne h_v h_de (by intro q; cases q)) h_v)))) k21 (by intro q; cases q)) (hup hf20 (hne (hup hf17 (hne (hup hf14 (hne (hup hf11 (hne h_v h_de (by intro q; cases q)) h_v) k12 (by intro q; cases q)) (hup hf11 (hne h_v h_de (by intro q; cases q)) h_v)) k15 (by intro q; cases q)) (hup hf14 (hne (hup hf11 (hne h_v h_de (by intro q; cases q)) h_v) k12 (by intro q; cases q)) (hup hf11 (hne h_v h_de (by intro q; cases q)) h_v))) k18 (by intro q; cases q)) (hup hf17 (hne (hup hf14 (hne (hup hf11 (hne h_v h_de (by intro q; cases q)) h_v) k12 (by intro q; cases q)) (hup hf11 (hne h_v h_de (by intro q; cases q)) h_v)) k15 (by intro q; cases q)) (hup hf14 (hne (hup hf11 (hne h_v h_de (by intro q; cases q)) h_v) k12 (by intro q; cases q)) (hup hf11 (hne h_v h_de (by intro q; cases q)) h_v))))) k24 (by intro q; cases q)) (hup hf23 (hne (hup hf20 (hne (hup hf17 (hne (hup hf14 (hne (hup hf11 (hne h_v h_de (by intro q; cases q)) h_v) k12 (by intro q; cases q)) (hup hf11 (hne h_v h_de (by intro q; cases q)) h_v)) k15 (by intro q; cases q)) (hup hf14 (hne (hup hf11 (hne h_v h_de (by intro q; cases q)) h_v) k12 (by intro q; cases q)) (hup hf11 (hne h_v h_de (by intro q; cases q)) h_v))) k18 (by intro q; cases q)) (hup hf17 (hne (hup hf14 (hne (hup hf11 (hne h_v h_de (by intro q; cases q)) h_v) k12 (by intro q; cases q)) (hup hf11 (hne h_v h_de (by intro q; cases q)) h_v)) k15 (by intro q; cases q)) (hup hf14 (hne (hup hf11 (hne h_v h_de (by intro q; cases q)) h_v) k12 (by intro q; cases q)) (hup hf11 (hne h_v h_de (by intro q; cases q)) h_v)))) k21 (by intro q; cases q)) (hup hf20 (hne (hup hf17 (hne (hup hf14 (hne (hup hf11 (hne h_v h_de (by intro q; cases q)) h_v) k12 (by intro q; cases q)) (hup hf11 (hne h_v h_de (by intro q; cases q)) h_v)) k15 (by intro q; cases q)) (hup hf14 (hne (hup hf11 (hne h_v h_de (by intro q; cases q)) h_v) k12 (by intro q; cases q)) (hup hf11 (hne h_v h_de (by intro q; cases q)) h_v))) k18 (by intro q; cases q)) (hup hf17 (hne (hup hf14 (hne (hup hf11 (hne h_v h_de (by intro q; cases q)) h_v) k12 (by intro q; cases q)) (hup hf11 (hne h_v h_de (by intro q; cases q)) h_v)) k15 (by intro q; cases q)) (hup hf14 (hne (hup hf11 (hne h_v h_de (by intro q; cases q)) h_v) k12 (by intro q; cases q)) (hup hf11 (hne h_v h_de (by intro q; cases q)) h_v)))))
  refine g_iald C0 G k29 0 rfl (by unfold vp_in; decide) dX9_does_80 ?_
  refine lv_topv (v := g 23) rfl ?_
  refine lv_topv (v := nI d) (h23) ?_
  refine lv_iconst (v := 1) hx hb dX9_does_81 (by decide) ?_
  refine lv_iadd hx hb dX9_does_82 ?_
  refine lv_topv (v := nI (d + 1)) ((nI_add _ _)) ?_
  refine g_iast C0 G k29 0 rfl (by unfold vp_in; decide) dX9_does_83 (fun H locs f30 hf30 G => ?_)
  have k31 : f30 v = some (.inl (cy 0, 6441, .inl (X9_does5_g6 g d))) := hus hf30
  refine lv_iload_n hx hb dX9_does_84 rfl (lv_at hl 2 rfl) ?_
  refine lv_tableIn (off := 156) (tgt := 241) hx hb dX9_does_85 (by decide) (by decide) rfl (by decide) ?_
  refine lv_aload_n hx hb dX9_does_241 rfl (lv_at hl 1 rfl) ?_
  have k32 : f30 m = some (.inr (11, [.int c_th, .int c_re, .ref v, .ref im, .ref kp, .ref pa, .ref de, .ref ide, .int c_un, .int c_hi, .ref tx, .int c_tn, .int c_fa, .int c_rf, .ref pt, .int c_ps, .int c_pl, .int c_to, .ref so, .ref mo, .ref wh, .ref pf])) := hup hf30 (hne k28 k29 (by intro q; cases q)) k28
  refine g_get C0 G k32 rfl hiX9 2 (by decide) mf_X9_9 rfl dX9_does_242 ?_
  refine lv_aload_n hx hb dX9_does_245 rfl (lv_at hl 1 rfl) ?_
  refine g_get C0 G k32 rfl hiX9 2 (by decide) mf_X9_9 rfl dX9_does_246 ?_
  refine lv_iconst (v := 4) hx hb dX9_does_249 (by decide) ?_
  refine g_iald C0 G k31 0 rfl (by unfold vp_in; decide) dX9_does_250 ?_
  refine lv_topv (v := (X9_does5_g6 g d) 4) rfl ?_
  refine lv_topv (v := nI i) ((by rw [X9_does5_g6, upd_off (by omega)]; exact h4)) ?_
  refine lv_iconst (v := 0) hx hb dX9_does_251 (by decide) ?_
  refine g_cI C0 G (g_runS C0 G (rest := [.ref v]) (k_X9_at hfl (nI i) 0 ) hY_X9_at mm_X9_62 ms_X9_at ⟨(Nat.le_of_ble_eq_true rfl), (Nat.le_of_ble_eq_true rfl)⟩ rfl hl.1 rfl (Nat.le_of_ble_eq_true rfl) dX9_does_252 ⟨(Nat.le_of_ble_eq_true rfl), (Nat.le_of_ble_eq_true rfl)⟩) (kx_no rfl) (fun r35 u34 H locs hp33 G => ?_)
  obtain ⟨rfl, eu34⟩ := hp33
  rw [eu34] at G
  refine lv_topv (v := nI (25 + 11 * i + 0)) (at_n i 0) ?_
  refine g_iald C0 G k31 0 rfl (vp_in_nI (by omega) (by omega)) dX9_does_255 ?_
  refine lv_topv (v := (X9_does5_g6 g d) (25 + 11 * i + 0)) (congrArg (X9_does5_g6 g d) (nI_c (by omega))) ?_
  refine lv_istore (lv' := [(8, .int ((X9_does5_g6 g d) (25 + 11 * i + 0))), (7, .int (nI (6 * d))), (0, .ref m), (1, .int 5), (2, .int p1), (3, .int p2), (4, .int p3), (5, .int p4), (6, .int p5)]) hx hb dX9_does_256 hl (by decide) rfl (fun ls hl => ?_)
  refine lv_aload_n hx hb dX9_does_258 rfl (lv_at hl 2 rfl) ?_
  refine lv_iconst (v := 0) hx hb dX9_does_259 (by decide) ?_
  refine lv_iconst (v := 1) hx hb dX9_does_260 (by decide) ?_
  refine g_cV C0 G (g_runV C0 G (rest := []) (k_X9_looks hfl 0 1 k32 k31 (by rw [X9_does5_g6, upd_off (by omega)]; exact h4) hi (by rw [X9_does5_g6, upd_off (by omega)]; exact h1) he hie (fun q => by have e9 : (X9_does5_g6 g d) 14 = g 14 := (by rw [X9_does5_g6, upd_off (by omega)]); rw [e9]; exact hrr q) (by rw [X9_does5_g6, upd_off (by omega)]; exact h22) (by omega) (Or.inl rfl) (Or.inr rfl)) k32 rfl hY_X9_looks mm_X9_139 mi_X9_looks ml_X9_looks ⟨(Nat.le_of_ble_eq_true rfl), (Nat.le_of_ble_eq_true rfl)⟩ rfl hl.1 rfl (Nat.le_of_ble_eq_true rfl) dX9_does_261 ⟨(Nat.le_of_ble_eq_true rfl), (Nat.le_of_ble_eq_true rfl)⟩) (kx_no rfl) (fun u37 H locs hp36 G => ?_)
  obtain ⟨k38, fr39⟩ := hp36
  refine lv_iload hx hb dX9_does_264 (lv_at hl 0 rfl) ?_
  have k40 : u37 de = some (.inl (cy 0, 24000, .inl (X9_does5_g5 p1 p2 p3 p4 p5 gd d))) := fr39 _ _ (by simp only [List.mem_cons, List.not_mem_nil, or_false]; intro q; exact (hne (hup hf30 (hne k27 k29 (by intro q; cases q)) k27) k31 (by intro q; cases q)) q) (hup hf30 (hne k27 k29 (by intro q; cases q)) k27)
  exact g_iret C0 G hr dX9_does_266 (Nat.le_of_ble_eq_true rfl) (Nat.le_of_ble_eq_true rfl) (by exact ⟨(by rw [X9_does5_r7]), k40, (by rw [(by rw [X9_does5_g8] : (X9_does5_g8 g i s e d) = (X9_looks_g11 (X9_does5_g6 g d) 0 1 i e s))]; exact k38), (fun a9 e9 h7 h8 => fr39 _ _ (fun q => h7 (by simp only [List.mem_cons, List.not_mem_nil, or_false] at q ⊢; first | exact q | (rcases q with q <;> simp [q]) | omega)) (hup hf30 (fun q => h7 (by rw [q]; simp)) (hup hf26 (fun q => h7 (by rw [q]; simp)) (hup hf23 (fun q => h7 (by rw [q]; simp)) (hup hf20 (fun q => h7 (by rw [q]; simp)) (hup hf17 (fun q => h7 (by rw [q]; simp)) (hup hf14 (fun q => h7 (by rw [q]; simp)) (hup hf11 (fun q => h7 (by rw [q]; simp)) (h8)))))))))⟩)
def X9_does6_g0 (gd : Nat → Int32) (d : Nat) : Nat → Int32 := upd gd (6 * d) 6
def X9_does6_g1 (p1 : Int32) (gd : Nat → Int32) (d : Nat) : Nat → Int32 := upd (X9_does6_g0 gd d) (6 * d + 1) p1
def X9_does6_g2 (p1 : Int32) (p2 : Int32) (gd : Nat → Int32) (d : Nat) : Nat → Int32 := upd (X9_does6_g1 p1 gd d) (6 * d + 2) p2
def X9_does6_g3 (p1 : Int32) (p2 : Int32) (p3 : Int32) (gd : Nat → Int32) (d : Nat) : Nat → Int32 := upd (X9_does6_g2 p1 p2 gd d) (6 * d + 3) p3
def X9_does6_g4 (p1 : Int32) (p2 : Int32) (p3 : Int32) (p4 : Int32) (gd : Nat → Int32) (d : Nat) : Nat → Int32 := upd (X9_does6_g3 p1 p2 p3 gd d) (6 * d + 4) p4
def X9_does6_g5 (p1 : Int32) (p2 : Int32) (p3 : Int32) (p4 : Int32) (p5 : Int32) (gd : Nat → Int32) (d : Nat) : Nat → Int32 := upd (X9_does6_g4 p1 p2 p3 p4 gd d) (6 * d + 5) p5
def X9_does6_g6 (g : Nat → Int32) (d : Nat) : Nat → Int32 := upd g 23 (nI (d + 1))
def X9_does6_r7 (g : Nat → Int32) (p1 : Int32) (i : Nat) (d : Nat) : Int32 := (X9_loses_r3 (X9_does6_g6 g d) p1 i)
def X9_does6_g8 (g : Nat → Int32) (p1 : Int32) (i : Nat) (s : Nat) (e : Nat) (d : Nat) : Nat → Int32 := (X9_loses_g4 (X9_does6_g6 g d) p1 i s e)
set_option maxRecDepth 100000 in
theorem k_X9_does6 {l : Launch} (hfl : l.stackTraces = false) {D : va_G} {cy : Nat → ClassId} {f : Hf} {sz : Nat} {m : Nat} {v : Nat} {im : Nat} {kp : Nat} {pa : Nat} {de : Nat} {ide : Nat} {tx : Nat} {pt : Nat} {so : Nat} {mo : Nat} {wh : Nat} {pf : Nat} {c_th : Int32} {c_re : Int32} {c_un : Int32} {c_hi : Int32} {c_tn : Int32} {c_fa : Int32} {c_rf : Int32} {c_ps : Int32} {c_pl : Int32} {c_to : Int32} {g : Nat → Int32} (p1 : Int32) (p2 : Int32) (p3 : Int32) (p4 : Int32) (p5 : Int32) {gd : Nat → Int32} {i : Nat} {s : Nat} {e : Nat} {d : Nat} (h_m : f m = some (.inr (11, [.int c_th, .int c_re, .ref v, .ref im, .ref kp, .ref pa, .ref de, .ref ide, .int c_un, .int c_hi, .ref tx, .int c_tn, .int c_fa, .int c_rf, .ref pt, .int c_ps, .int c_pl, .int c_to, .ref so, .ref mo, .ref wh, .ref pf]))) (h_v : f v = some (.inl (cy 0, 6441, .inl g))) (h_de : f de = some (.inl (cy 0, 24000, .inl gd))) (h4 : g 4 = nI i) (hi : i < 4) (h22 : g 22 = nI s) (hs1 : 1 ≤ s) (hs : s < 699) (h1 : g 1 = nI e) (he : e = 1 ∨ e = 2) (he1 : e = 1) (hie : i + 1 ≤ 2 * e) (hrr : i + 1 = 2 * e → e = 2 ∨ ¬ (g 14).toInt64 = 0) (h23 : g 23 = nI d) (hd : d < 4000) : hMet l yX9_does cX9_does 9 (some .int) { frames := 4, cells := 0, slots := 0, locals := 96 } D (hTy cy) f sz [.ref m, .int 6, .int p1, .int p2, .int p3, .int p4, .int p5] (hQi (fun r u => r = (X9_does6_r7 g p1 i d) ∧ u de = some (.inl (cy 0, 24000, .inl (X9_does6_g5 p1 p2 p3 p4 p5 gd d))) ∧ u v = some (.inl (cy 0, 6441, .inl (X9_does6_g8 g p1 i s e d))) ∧ hFrL f u [de, v]) D f sz) hNo := by
  refine h_enter (by decide) hfl (Nat.le_of_ble_eq_true rfl) ?_
  intro p9 e9 s9 m9 b9 t9 c9 hsz C0 hr hnm G ls hl
  have hx := C0.1.1
  have hb := C0.1.2.1
  have hl : lv_has ls 9 [(0, .ref m), (1, .int 6), (2, .int p1), (3, .int p2), (4, .int p3), (5, .int p4), (6, .int p5)] := hl
  refine lv_bipush (v := 6) hx hb dX9_does_0 (by decide) ?_
  refine lv_aload_n hx hb dX9_does_2 rfl (lv_at hl 0 rfl) ?_
  refine g_get C0 G h_m rfl hiX9 2 (by decide) mf_X9_9 rfl dX9_does_3 ?_
  refine lv_bipush (v := 23) hx hb dX9_does_6 (by decide) ?_
  refine g_iald C0 G h_v 0 rfl (by unfold vp_in; decide) dX9_does_8 ?_
  refine lv_topv (v := g 23) rfl ?_
  refine lv_topv (v := nI d) (h23) ?_
  refine lv_imul hx hb dX9_does_9 ?_
  refine lv_topv (v := nI (6 * d)) ((pk_mul _ _)) ?_
  refine lv_istore (lv' := [(7, .int (nI (6 * d))), (0, .ref m), (1, .int 6), (2, .int p1), (3, .int p2), (4, .int p3), (5, .int p4), (6, .int p5)]) hx hb dX9_does_10 hl (by decide) rfl (fun ls hl => ?_)
  refine lv_aload_n hx hb dX9_does_12 rfl (lv_at hl 1 rfl) ?_
  refine g_get C0 G h_m rfl hiX9 6 (by decide) mf_X9_23 rfl dX9_does_13 ?_
  refine lv_iload hx hb dX9_does_16 (lv_at hl 0 rfl) ?_
  refine lv_iload_n hx hb dX9_does_18 rfl (lv_at hl 2 rfl) ?_
  refine g_iast C0 G h_de 0 rfl (vp_in_nI (by omega) (by omega)) dX9_does_19 (fun H locs f11 hf11 G => ?_)
  have k12 : f11 de = some (.inl (cy 0, 24000, .inl (X9_does6_g0 gd d))) := (by have h9 := hus hf11; rw [nI_c (by omega)] at h9; exact h9)
  refine lv_aload_n hx hb dX9_does_20 rfl (lv_at hl 1 rfl) ?_
  have k13 : f11 m = some (.inr (11, [.int c_th, .int c_re, .ref v, .ref im, .ref kp, .ref pa, .ref de, .ref ide, .int c_un, .int c_hi, .ref tx, .int c_tn, .int c_fa, .int c_rf, .ref pt, .int c_ps, .int c_pl, .int c_to, .ref so, .ref mo, .ref wh, .ref pf])) := hup hf11 (hne h_m h_de (by intro q; cases q)) h_m
  refine g_get C0 G k13 rfl hiX9 6 (by decide) mf_X9_23 rfl dX9_does_21 ?_
  refine lv_iload hx hb dX9_does_24 (lv_at hl 0 rfl) ?_
  refine lv_iconst (v := 1) hx hb dX9_does_26 (by decide) ?_
  refine lv_iadd hx hb dX9_does_27 ?_
  refine lv_topv (v := nI (6 * d + 1)) ((nI_add _ _)) ?_
  refine lv_iload_n hx hb dX9_does_28 rfl (lv_at hl 3 rfl) ?_
  refine g_iast C0 G k12 0 rfl (vp_in_nI (by omega) (by omega)) dX9_does_29 (fun H locs f14 hf14 G => ?_)
  have k15 : f14 de = some (.inl (cy 0, 24000, .inl (X9_does6_g1 p1 gd d))) := (by have h9 := hus hf14; rw [nI_c (by omega)] at h9; exact h9)
  refine lv_aload_n hx hb dX9_does_30 rfl (lv_at hl 1 rfl) ?_
  have k16 : f14 m = some (.inr (11, [.int c_th, .int c_re, .ref v, .ref im, .ref kp, .ref pa, .ref de, .ref ide, .int c_un, .int c_hi, .ref tx, .int c_tn, .int c_fa, .int c_rf, .ref pt, .int c_ps, .int c_pl, .int c_to, .ref so, .ref mo, .ref wh, .ref pf])) := hup hf14 (hne k13 k12 (by intro q; cases q)) k13
  refine g_get C0 G k16 rfl hiX9 6 (by decide) mf_X9_23 rfl dX9_does_31 ?_
  refine lv_iload hx hb dX9_does_34 (lv_at hl 0 rfl) ?_
  refine lv_iconst (v := 2) hx hb dX9_does_36 (by decide) ?_
  refine lv_iadd hx hb dX9_does_37 ?_
  refine lv_topv (v := nI (6 * d + 2)) ((nI_add _ _)) ?_
  refine lv_iload_n hx hb dX9_does_38 rfl (lv_at hl 4 rfl) ?_
  refine g_iast C0 G k15 0 rfl (vp_in_nI (by omega) (by omega)) dX9_does_39 (fun H locs f17 hf17 G => ?_)
  have k18 : f17 de = some (.inl (cy 0, 24000, .inl (X9_does6_g2 p1 p2 gd d))) := (by have h9 := hus hf17; rw [nI_c (by omega)] at h9; exact h9)
  refine lv_aload_n hx hb dX9_does_40 rfl (lv_at hl 1 rfl) ?_
  have k19 : f17 m = some (.inr (11, [.int c_th, .int c_re, .ref v, .ref im, .ref kp, .ref pa, .ref de, .ref ide, .int c_un, .int c_hi, .ref tx, .int c_tn, .int c_fa, .int c_rf, .ref pt, .int c_ps, .int c_pl, .int c_to, .ref so, .ref mo, .ref wh, .ref pf])) := hup hf17 (hne k16 k15 (by intro q; cases q)) k16
  refine g_get C0 G k19 rfl hiX9 6 (by decide) mf_X9_23 rfl dX9_does_41 ?_
  refine lv_iload hx hb dX9_does_44 (lv_at hl 0 rfl) ?_
  refine lv_iconst (v := 3) hx hb dX9_does_46 (by decide) ?_
  refine lv_iadd hx hb dX9_does_47 ?_
  refine lv_topv (v := nI (6 * d + 3)) ((nI_add _ _)) ?_
  refine lv_iload hx hb dX9_does_48 (lv_at hl 5 rfl) ?_
  refine g_iast C0 G k18 0 rfl (vp_in_nI (by omega) (by omega)) dX9_does_50 (fun H locs f20 hf20 G => ?_)
  have k21 : f20 de = some (.inl (cy 0, 24000, .inl (X9_does6_g3 p1 p2 p3 gd d))) := (by have h9 := hus hf20; rw [nI_c (by omega)] at h9; exact h9)
  refine lv_aload_n hx hb dX9_does_51 rfl (lv_at hl 1 rfl) ?_
  have k22 : f20 m = some (.inr (11, [.int c_th, .int c_re, .ref v, .ref im, .ref kp, .ref pa, .ref de, .ref ide, .int c_un, .int c_hi, .ref tx, .int c_tn, .int c_fa, .int c_rf, .ref pt, .int c_ps, .int c_pl, .int c_to, .ref so, .ref mo, .ref wh, .ref pf])) := hup hf20 (hne k19 k18 (by intro q; cases q)) k19
  refine g_get C0 G k22 rfl hiX9 6 (by decide) mf_X9_23 rfl dX9_does_52 ?_
  refine lv_iload hx hb dX9_does_55 (lv_at hl 0 rfl) ?_
  refine lv_iconst (v := 4) hx hb dX9_does_57 (by decide) ?_
  refine lv_iadd hx hb dX9_does_58 ?_
  refine lv_topv (v := nI (6 * d + 4)) ((nI_add _ _)) ?_
  refine lv_iload hx hb dX9_does_59 (lv_at hl 6 rfl) ?_
  refine g_iast C0 G k21 0 rfl (vp_in_nI (by omega) (by omega)) dX9_does_61 (fun H locs f23 hf23 G => ?_)
  have k24 : f23 de = some (.inl (cy 0, 24000, .inl (X9_does6_g4 p1 p2 p3 p4 gd d))) := (by have h9 := hus hf23; rw [nI_c (by omega)] at h9; exact h9)
  refine lv_aload_n hx hb dX9_does_62 rfl (lv_at hl 1 rfl) ?_
  have k25 : f23 m = some (.inr (11, [.int c_th, .int c_re, .ref v, .ref im, .ref kp, .ref pa, .ref de, .ref ide, .int c_un, .int c_hi, .ref tx, .int c_tn, .int c_fa, .int c_rf, .ref pt, .int c_ps, .int c_pl, .int c_to, .ref so, .ref mo, .ref wh, .ref pf])) := hup hf23 (hne k22 k21 (by intro q; cases q)) k22
  refine g_get C0 G k25 rfl hiX9 6 (by decide) mf_X9_23 rfl dX9_does_63 ?_
  refine lv_iload hx hb dX9_does_66 (lv_at hl 0 rfl) ?_
  refine lv_iconst (v := 5) hx hb dX9_does_68 (by decide) ?_
  refine lv_iadd hx hb dX9_does_69 ?_
  refine lv_topv (v := nI (6 * d + 5)) ((nI_add _ _)) ?_
  refine lv_iload hx hb dX9_does_70 (lv_at hl 7 rfl) ?_
  refine g_iast C0 G k24 0 rfl (vp_in_nI (by omega) (by omega)) dX9_does_72 (fun H locs f26 hf26 G => ?_)
  have k27 : f26 de = some (.inl (cy 0, 24000, .inl (X9_does6_g5 p1 p2 p3 p4 p5 gd d))) := (by have h9 := hus hf26; rw [nI_c (by omega)] at h9; exact h9)
  refine lv_aload_n hx hb dX9_does_73 rfl (lv_at hl 1 rfl) ?_
  have k28 : f26 m = some (.inr (11, [.int c_th, .int c_re, .ref v, .ref im, .ref kp, .ref pa, .ref de, .ref ide, .int c_un, .int c_hi, .ref tx, .int c_tn, .int c_fa, .int c_rf, .ref pt, .int c_ps, .int c_pl, .int c_to, .ref so, .ref mo, .ref wh, .ref pf])) := hup hf26 (hne k25 k24 (by intro q; cases q)) k25
  refine g_get C0 G k28 rfl hiX9 2 (by decide) mf_X9_9 rfl dX9_does_74 ?_
  refine lv_bipush (v := 23) hx hb dX9_does_77 (by decide) ?_
  refine lv_dup2_11 hx hb dX9_does_79 rfl rfl ?_
  have k29 : f26 v = some (.inl (cy 0, 6441, .inl g)) := hup hf26 (hne (hup hf23 (hne (hup hf20 (hne (hup hf17 (hne (hup hf14 (hne (hup hf11 (hne h_v h_de (by intro q; cases q)) h_v) k12 (by intro q; cases q)) (hup hf11 (hne h_v h_de (by intro q; cases q)) h_v)) k15 (by intro q; cases q)) (hup hf14 (hne (hup hf11 (hne h_v h_de (by intro q; cases q)) h_v) k12 (by intro q; cases q)) (hup hf11 (hne h_v h_de (by intro q; cases q)) h_v))) k18 (by intro q; cases q)) (hup hf17 (hne (hup hf14 (hne (hup hf11 (hne h_v h_de (by intro q; cases q)) h_v) k12 (by intro q; cases q)) (hup hf11 (hne h_v h_de (by intro q; cases q)) h_v)) k15 (by intro q; cases q)) (hup hf14 (hne (hup hf11 (hne h_v h_de (by intro q; cases q)) h_v) k12 (by intro q; cases q)) (hup hf11 (hne h_v h_de (by intro q; cases q)) h_v)))) k21 (by intro q; cases q)) (hup hf20 (hne (hup hf17 (hne (hup hf14 (hne (hup hf11 (hne h_v h_de (by intro q; cases q)) h_v) k12 (by intro q; cases q)) (hup hf11 (hne h_v h_de (by intro q; cases q)) h_v)) k15 (by intro q; cases q)) (hup hf14 (hne (hup hf11 (hne h_v h_de (by intro q; cases q)) h_v) k12 (by intro q; cases q)) (hup hf11 (hne h_v h_de (by intro q; cases q)) h_v))) k18 (by intro q; cases q)) (hup hf17 (hne (hup hf14 (hne (hup hf11 (hne h_v h_de (by intro q; cases q)) h_v) k12 (by intro q; cases q)) (hup hf11 (hne h_v h_de (by intro q; cases q)) h_v)) k15 (by intro q; cases q)) (hup hf14 (hne (hup hf11 (hne h_v h_de (by intro q; cases q)) h_v) k12 (by intro q; cases q)) (hup hf11 (hne h_v h_de (by intro q; cases q)) h_v))))) k24 (by intro q; cases q)) (hup hf23 (hne (hup hf20 (hne (hup hf17 (hne (hup hf14 (hne (hup hf11 (hne h_v h_de (by intro q; cases q)) h_v) k12 (by intro q; cases q)) (hup hf11 (hne h_v h_de (by intro q; cases q)) h_v)) k15 (by intro q; cases q)) (hup hf14 (hne (hup hf11 (hne h_v h_de (by intro q; cases q)) h_v) k12 (by intro q; cases q)) (hup hf11 (hne h_v h_de (by intro q; cases q)) h_v))) k18 (by intro q; cases q)) (hup hf17 (hne (hup hf14 (hne (hup hf11 (hne h_v h_de (by intro q; cases q)) h_v) k12 (by intro q; cases q)) (hup hf11 (hne h_v h_de (by intro q; cases q)) h_v)) k15 (by intro q; cases q)) (hup hf14 (hne (hup hf11 (hne h_v h_de (by intro q; cases q)) h_v) k12 (by intro q; cases q)) (hup hf11 (hne h_v h_de (by intro q; cases q)) h_v)))) k21 (by intro q; cases q)) (hup hf20 (hne (hup hf17 (hne (hup hf14 (hne (hup hf11 (hne h_v h_de (by intro q; cases q)) h_v) k12 (by intro q; cases q)) (hup hf11 (hne h_v h_de (by intro q; cases q)) h_v)) k15 (by intro q; cases q)) (hup hf14 (hne (hup hf11 (hne h_v h_de (by intro q; cases q)) h_v) k12 (by intro q; cases q)) (hup hf11 (hne h_v h_de (by intro q; cases q)) h_v))) k18 (by intro q; cases q)) (hup hf17 (hne (hup hf14 (hne (hup hf11 (hne h_v h_de (by intro q; cases q)) h_v) k12 (by intro q; cases q)) (hup hf11 (hne h_v h_de (by intro q; cases q)) h_v)) k15 (by intro q; cases q)) (hup hf14 (hne (hup hf11 (hne h_v h_de (by intro q; cases q)) h_v) k12 (by intro q; cases q)) (hup hf11 (hne h_v h_de (by intro q; cases q)) h_v)))))
  refine g_iald C0 G k29 0 rfl (by unfold vp_in; decide) dX9_does_80 ?_
  refine lv_topv (v := g 23) rfl ?_
  refine lv_topv (v := nI d) (h23) ?_
  refine lv_iconst (v := 1) hx hb dX9_does_81 (by decide) ?_
  refine lv_iadd hx hb dX9_does_82 ?_
  refine lv_topv (v := nI (d + 1)) ((nI_add _ _)) ?_
  refine g_iast C0 G k29 0 rfl (by unfold vp_in; decide) dX9_does_83 (fun H locs f30 hf30 G => ?_)
  have k31 : f30 v = some (.inl (cy 0, 6441, .inl (X9_does6_g6 g d))) := hus hf30
  refine lv_iload_n hx hb dX9_does_84 rfl (lv_at hl 2 rfl) ?_
  refine lv_tableOut (tgt := 267) hx hb dX9_does_85 (by decide) (by decide) ?_
  refine lv_aload_n hx hb dX9_does_267 rfl (lv_at hl 1 rfl) ?_
  refine lv_iload_n hx hb dX9_does_268 rfl (lv_at hl 3 rfl) ?_
  have k32 : f30 m = some (.inr (11, [.int c_th, .int c_re, .ref v, .ref im, .ref kp, .ref pa, .ref de, .ref ide, .int c_un, .int c_hi, .ref tx, .int c_tn, .int c_fa, .int c_rf, .ref pt, .int c_ps, .int c_pl, .int c_to, .ref so, .ref mo, .ref wh, .ref pf])) := hup hf30 (hne k28 k29 (by intro q; cases q)) k28
  refine g_cI C0 G (g_runV C0 G (rest := []) (k_X9_loses hfl p1 k32 k31 (by rw [X9_does6_g6, upd_off (by omega)]; exact h4) hi (by rw [X9_does6_g6, upd_off (by omega)]; exact h22) hs1 hs (by rw [X9_does6_g6, upd_off (by omega)]; exact h1) he he1 hie (fun q => by have e9 : (X9_does6_g6 g d) 14 = g 14 := (by rw [X9_does6_g6, upd_off (by omega)]); rw [e9]; exact hrr q)) k32 rfl hY_X9_loses mm_X9_143 mi_X9_loses ml_X9_loses ⟨(Nat.le_of_ble_eq_true rfl), (Nat.le_of_ble_eq_true rfl)⟩ rfl hl.1 rfl (Nat.le_of_ble_eq_true rfl) dX9_does_269 ⟨(Nat.le_of_ble_eq_true rfl), (Nat.le_of_ble_eq_true rfl)⟩) (kx_no rfl) (fun r35 u34 H locs hp33 G => ?_)
  obtain ⟨rfl, k36, fr37⟩ := hp33
  have k38 : u34 de = some (.inl (cy 0, 24000, .inl (X9_does6_g5 p1 p2 p3 p4 p5 gd d))) := fr37 _ _ (by simp only [List.mem_cons, List.not_mem_nil, or_false]; intro q; exact (hne (hup hf30 (hne k27 k29 (by intro q; cases q)) k27) k31 (by intro q; cases q)) q) (hup hf30 (hne k27 k29 (by intro q; cases q)) k27)
  exact g_iret C0 G hr dX9_does_272 (Nat.le_of_ble_eq_true rfl) (Nat.le_of_ble_eq_true rfl) (by exact ⟨(by rw [X9_does6_r7]), k38, (by rw [(by rw [X9_does6_g8] : (X9_does6_g8 g p1 i s e d) = (X9_loses_g4 (X9_does6_g6 g d) p1 i s e))]; exact k36), (fun a9 e9 h7 h8 => fr37 _ _ (fun q => h7 (by simp only [List.mem_cons, List.not_mem_nil, or_false] at q ⊢; first | exact q | (rcases q with q <;> simp [q]) | omega)) (hup hf30 (fun q => h7 (by rw [q]; simp)) (hup hf26 (fun q => h7 (by rw [q]; simp)) (hup hf23 (fun q => h7 (by rw [q]; simp)) (hup hf20 (fun q => h7 (by rw [q]; simp)) (hup hf17 (fun q => h7 (by rw [q]; simp)) (hup hf14 (fun q => h7 (by rw [q]; simp)) (hup hf11 (fun q => h7 (by rw [q]; simp)) (h8)))))))))⟩)
def X9_refusesBowl_n0 (g : Nat → Int32) (p : Nat) (i : Nat) : Nat := if (g (333 + 7 * (11 * i + p) + 6)) < (X9_fifth_r0 (g (18 + i))) then 0 else 4
def X9_refusesBowl_n1 (g : Nat → Int32) (p : Nat) (i : Nat) : Nat := if (g 12) = (nI p) then 4 else (X9_refusesBowl_n0 g p i)
def X9_refusesBowl_r2 (g : Nat → Int32) (p : Nat) (i : Nat) : Int32 := if (X9_noMatch_x1 g) = 1 then 1 else (if (g 9) < 0 then (nI (X9_refusesBowl_n1 g p i)) else 2)
set_option maxRecDepth 100000 in
theorem k_X9_refusesBowl {l : Launch} (hfl : l.stackTraces = false) {D : va_G} {cy : Nat → ClassId} {f : Hf} {sz : Nat} {m : Nat} {v : Nat} {im : Nat} {kp : Nat} {pa : Nat} {de : Nat} {ide : Nat} {tx : Nat} {pt : Nat} {so : Nat} {mo : Nat} {wh : Nat} {pf : Nat} {c_th : Int32} {c_re : Int32} {c_un : Int32} {c_hi : Int32} {c_tn : Int32} {c_fa : Int32} {c_rf : Int32} {c_ps : Int32} {c_pl : Int32} {c_to : Int32} {g : Nat → Int32} {p : Nat} {i : Nat} (h_m : f m = some (.inr (11, [.int c_th, .int c_re, .ref v, .ref im, .ref kp, .ref pa, .ref de, .ref ide, .int c_un, .int c_hi, .ref tx, .int c_tn, .int c_fa, .int c_rf, .ref pt, .int c_ps, .int c_pl, .int c_to, .ref so, .ref mo, .ref wh, .ref pf]))) (h_v : f v = some (.inl (cy 0, 6441, .inl g))) (h4 : g 4 = nI i) (hi : i < 4) (hp : p < 11) : hMet l yX9_refusesBowl cX9_refusesBowl 3 (some .int) { frames := 1, cells := 0, slots := 0, locals := 22 } D (hTy cy) f sz [.ref m, .int (nI p)] (hQi (fun r u => r = (X9_refusesBowl_r2 g p i) ∧ u = f) D f sz) hNo := by
  refine h_enter (by decide) hfl (Nat.le_of_ble_eq_true rfl) ?_
  intro p9 e9 s9 m9 b9 t9 c9 hsz C0 hr hnm G ls hl
  have hx := C0.1.1
  have hb := C0.1.2.1
  have hl : lv_has ls 3 [(0, .ref m), (1, .int (nI p))] := hl
  refine lv_aload_n hx hb dX9_refusesBowl_0 rfl (lv_at hl 0 rfl) ?_
  refine g_cI C0 G (g_runV C0 G (rest := []) (k_X9_noMatch hfl h_m h_v) h_m rfl hY_X9_noMatch mm_X9_102 mi_X9_noMatch ml_X9_noMatch ⟨(Nat.le_of_ble_eq_true rfl), (Nat.le_of_ble_eq_true rfl)⟩ rfl hl.1 rfl (Nat.le_of_ble_eq_true rfl) dX9_refusesBowl_1 ⟨(Nat.le_of_ble_eq_true rfl), (Nat.le_of_ble_eq_true rfl)⟩) (kx_no rfl) (fun r13 u12 H locs hp11 G => ?_)
  obtain ⟨rfl, eu12⟩ := hp11
  rw [eu12] at G
  refine lv_iconst (v := 1) hx hb dX9_refusesBowl_4 (by decide) ?_
  refine lv_icmp_ne (tgt := 10) hx hb dX9_refusesBowl_5 (by decide) (fun c14 => ?_) (fun c14 => ?_)
  · refine lv_aload_n hx hb dX9_refusesBowl_10 rfl (lv_at hl 0 rfl) ?_
    refine g_get C0 G h_m rfl hiX9 2 (by decide) mf_X9_9 rfl dX9_refusesBowl_11 ?_
    refine lv_bipush (v := 9) hx hb dX9_refusesBowl_14 (by decide) ?_
    refine g_iald C0 G h_v 0 rfl (by unfold vp_in; decide) dX9_refusesBowl_16 ?_
    refine lv_topv (v := g 9) rfl ?_
    refine lv_if_lt (tgt := 22) hx hb dX9_refusesBowl_17 (by decide) (fun c15 => ?_) (fun c15 => ?_)
    · refine lv_aload_n hx hb dX9_refusesBowl_22 rfl (lv_at hl 0 rfl) ?_
      refine g_get C0 G h_m rfl hiX9 2 (by decide) mf_X9_9 rfl dX9_refusesBowl_23 ?_
      refine lv_iconst (v := 4) hx hb dX9_refusesBowl_26 (by decide) ?_
      refine g_iald C0 G h_v 0 rfl (by unfold vp_in; decide) dX9_refusesBowl_27 ?_
      refine lv_topv (v := g 4) rfl ?_
      refine lv_topv (v := nI i) (h4) ?_
      refine lv_istore_n (lv' := [(2, .int (nI i)), (0, .ref m), (1, .int (nI p))]) hx hb dX9_refusesBowl_28 rfl hl (by decide) rfl (fun ls hl => ?_)
      refine lv_aload_n hx hb dX9_refusesBowl_29 rfl (lv_at hl 1 rfl) ?_
      refine g_get C0 G h_m rfl hiX9 2 (by decide) mf_X9_9 rfl dX9_refusesBowl_30 ?_
      refine lv_bipush (v := 12) hx hb dX9_refusesBowl_33 (by decide) ?_
      refine g_iald C0 G h_v 0 rfl (by unfold vp_in; decide) dX9_refusesBowl_35 ?_
      refine lv_topv (v := g 12) rfl ?_
      refine lv_iload_n hx hb dX9_refusesBowl_36 rfl (lv_at hl 2 rfl) ?_
      have J18 : ∀ (y17 : Int32) (_ : y17 = nI (X9_refusesBowl_n1 g p i)) (H : Heap) (locs : List Loc) (ls : Array Slot), hG D (hA f sz) f s9 H locs → lv_has ls 3 [(2, .int (nI i)), (0, .ref m), (1, .int (nI p))] → W p9 l e9 ({ frames := 1, cells := 0, slots := 0, locals := 22 } : Room) s9 m9 ([.ref m, .int (nI p)] : List Value).toArray b9 t9 c9 H locs 0 0 (vx_MQ b9 (hQi (fun r u => r = (X9_refusesBowl_r2 g p i) ∧ u = f) D f sz) (hPx hNo D f sz) ([.ref m, .int (nI p)] : List Value).toArray s9 0 0 (hA f sz)) (F0 m9 72 ls [.int y17]) := by
        intro y17 ey17 H locs ls G hl
        subst ey17
        exact g_iret C0 G hr dX9_refusesBowl_72 (Nat.le_of_ble_eq_true rfl) (Nat.le_of_ble_eq_true rfl) (by exact ⟨(by rw [X9_refusesBowl_r2, if_neg c14, if_pos c15]), rfl⟩)
      refine lv_icmp_eq (tgt := 67) hx hb dX9_refusesBowl_37 (by decide) (fun c16 => ?_) (fun c16 => ?_)
      · refine lv_iconst (v := 4) hx hb dX9_refusesBowl_67 (by decide) ?_
        refine lv_goto (tgt := 72) hx hb dX9_refusesBowl_68 (by decide) ?_
        exact J18 4 (by rw [X9_refusesBowl_n1, if_pos c16] <;> rfl) _ _ _ G (lv_sub hl [0, 1, 2] rfl)
      · refine lv_aload_n hx hb dX9_refusesBowl_40 rfl (lv_at hl 1 rfl) ?_
        refine g_get C0 G h_m rfl hiX9 2 (by decide) mf_X9_9 rfl dX9_refusesBowl_41 ?_
        refine lv_iload_n hx hb dX9_refusesBowl_44 rfl (lv_at hl 0 rfl) ?_
        refine lv_iload_n hx hb dX9_refusesBowl_45 rfl (lv_at hl 2 rfl) ?_
        refine lv_bipush (v := 6) hx hb dX9_refusesBowl_46 (by decide) ?_
        refine g_cI C0 G (g_runS C0 G (rest := [.ref v]) (k_X9_bowlerAt hfl (nI i) (nI p) 6 ) hY_X9_bowlerAt mm_X9_105 ms_X9_bowlerAt ⟨(Nat.le_of_ble_eq_true rfl), (Nat.le_of_ble_eq_true rfl)⟩ rfl hl.1 rfl (Nat.le_of_ble_eq_true rfl) dX9_refusesBowl_48 ⟨(Nat.le_of_ble_eq_true rfl), (Nat.le_of_ble_eq_true rfl)⟩) (kx_no rfl) (fun r22 u21 H locs hp20 G => ?_)
        obtain ⟨rfl, eu21⟩ := hp20
        rw [eu21] at G
        refine lv_topv (v := nI (333 + 7 * (11 * i + p) + 6)) (bow_n i p 6) ?_
        refine g_iald C0 G h_v 0 rfl (vp_in_nI (by omega) (by omega)) dX9_refusesBowl_51 ?_
        refine lv_topv (v := g (333 + 7 * (11 * i + p) + 6)) (congrArg g (nI_c (by omega))) ?_
        refine lv_aload_n hx hb dX9_refusesBowl_52 rfl (lv_at hl 1 rfl) ?_
        refine g_get C0 G h_m rfl hiX9 2 (by decide) mf_X9_9 rfl dX9_refusesBowl_53 ?_
        refine lv_bipush (v := 18) hx hb dX9_refusesBowl_56 (by decide) ?_
        refine lv_iload_n hx hb dX9_refusesBowl_58 rfl (lv_at hl 0 rfl) ?_
        refine lv_iadd hx hb dX9_refusesBowl_59 ?_
        refine lv_topv (v := nI (18 + i)) ((nI_add _ _)) ?_
        refine g_iald C0 G h_v 0 rfl (vp_in_nI (by omega) (by omega)) dX9_refusesBowl_60 ?_
        refine lv_topv (v := g (18 + i)) (congrArg g (nI_c (by omega))) ?_
        refine g_cI C0 G (g_runS C0 G (rest := [.int (g (333 + 7 * (11 * i + p) + 6))]) (k_X9_fifth hfl (g (18 + i)) ) hY_X9_fifth mm_X9_87 ms_X9_fifth ⟨(Nat.le_of_ble_eq_true rfl), (Nat.le_of_ble_eq_true rfl)⟩ rfl hl.1 rfl (Nat.le_of_ble_eq_true rfl) dX9_refusesBowl_61 ⟨(Nat.le_of_ble_eq_true rfl), (Nat.le_of_ble_eq_true rfl)⟩) (kx_no rfl) (fun r25 u24 H locs hp23 G => ?_)
        obtain ⟨rfl, eu24⟩ := hp23
        rw [eu24] at G
        have J28 : ∀ (y27 : Int32) (_ : y27 = nI (X9_refusesBowl_n0 g p i)) (H : Heap) (locs : List Loc) (ls : Array Slot), hG D (hA f sz) f s9 H locs → lv_has ls 3 [(2, .int (nI i)), (0, .ref m), (1, .int (nI p))] → W p9 l e9 ({ frames := 1, cells := 0, slots := 0, locals := 22 } : Room) s9 m9 ([.ref m, .int (nI p)] : List Value).toArray b9 t9 c9 H locs 0 0 (vx_MQ b9 (hQi (fun r u => r = (X9_refusesBowl_r2 g p i) ∧ u = f) D f sz) (hPx hNo D f sz) ([.ref m, .int (nI p)] : List Value).toArray s9 0 0 (hA f sz)) (F0 m9 72 ls [.int y27]) := by
          intro y27 ey27 H locs ls G hl
          subst ey27
          have bd30 : (X9_refusesBowl_n0 g p i) ≤ 4 := by unfold X9_refusesBowl_n0; repeat (first | omega | split)
          exact J18 (nI (X9_refusesBowl_n0 g p i)) (by rw [X9_refusesBowl_n1, if_neg c16] <;> rfl) _ _ _ G (lv_sub hl [0, 1, 2] rfl)
        refine lv_icmp_lt (tgt := 71) hx hb dX9_refusesBowl_64 (by decide) (fun c26 => ?_) (fun c26 => ?_)
        · refine lv_iconst (v := 0) hx hb dX9_refusesBowl_71 (by decide) ?_
          exact J28 0 (by rw [X9_refusesBowl_n0, if_pos c26] <;> rfl) _ _ _ G (lv_sub hl [0, 1, 2] rfl)
        · refine lv_iconst (v := 4) hx hb dX9_refusesBowl_67 (by decide) ?_
          refine lv_goto (tgt := 72) hx hb dX9_refusesBowl_68 (by decide) ?_
          exact J28 4 (by rw [X9_refusesBowl_n0, if_neg c26] <;> rfl) _ _ _ G (lv_sub hl [0, 1, 2] rfl)
    · refine lv_iconst (v := 2) hx hb dX9_refusesBowl_20 (by decide) ?_
      exact g_iret C0 G hr dX9_refusesBowl_21 (Nat.le_of_ble_eq_true rfl) (Nat.le_of_ble_eq_true rfl) (by exact ⟨(by rw [X9_refusesBowl_r2, if_neg c14, if_neg c15]), rfl⟩)
  · refine lv_iconst (v := 1) hx hb dX9_refusesBowl_8 (by decide) ?_
    exact g_iret C0 G hr dX9_refusesBowl_9 (Nat.le_of_ble_eq_true rfl) (Nat.le_of_ble_eq_true rfl) (by exact ⟨(by rw [X9_refusesBowl_r2, if_pos c14]), rfl⟩)
def X9_refusesBall_n0 (g : Nat → Int32) : Nat := if 0 ≤ (g 9) then 0 else 3
def X9_refusesBall_n1 (g : Nat → Int32) : Nat := if (X9_noMatch_x1 g) = 1 then 1 else (X9_refusesBall_n0 g)
def X9_refusesBall_r2 (g : Nat → Int32) : Int32 := nI (X9_refusesBall_n1 g)
set_option maxRecDepth 100000 in
theorem k_X9_refusesBall {l : Launch} (hfl : l.stackTraces = false) {D : va_G} {cy : Nat → ClassId} {f : Hf} {sz : Nat} {m : Nat} {v : Nat} {im : Nat} {kp : Nat} {pa : Nat} {de : Nat} {ide : Nat} {tx : Nat} {pt : Nat} {so : Nat} {mo : Nat} {wh : Nat} {pf : Nat} {c_th : Int32} {c_re : Int32} {c_un : Int32} {c_hi : Int32} {c_tn : Int32} {c_fa : Int32} {c_rf : Int32} {c_ps : Int32} {c_pl : Int32} {c_to : Int32} {g : Nat → Int32} (h_m : f m = some (.inr (11, [.int c_th, .int c_re, .ref v, .ref im, .ref kp, .ref pa, .ref de, .ref ide, .int c_un, .int c_hi, .ref tx, .int c_tn, .int c_fa, .int c_rf, .ref pt, .int c_ps, .int c_pl, .int c_to, .ref so, .ref mo, .ref wh, .ref pf]))) (h_v : f v = some (.inl (cy 0, 6441, .inl g)))  : hMet l yX9_refusesBall cX9_refusesBall 1 (some .int) { frames := 1, cells := 0, slots := 0, locals := 20 } D (hTy cy) f sz [.ref m] (hQi (fun r u => r = (X9_refusesBall_r2 g) ∧ u = f) D f sz) hNo := by
  refine h_enter (by decide) hfl (Nat.le_of_ble_eq_true rfl) ?_
  intro p9 e9 s9 m9 b9 t9 c9 hsz C0 hr hnm G ls hl
  have hx := C0.1.1
  have hb := C0.1.2.1
  have hl : lv_has ls 1 [(0, .ref m)] := hl
  refine lv_aload_n hx hb dX9_refusesBall_0 rfl (lv_at hl 0 rfl) ?_
  refine g_cI C0 G (g_runV C0 G (rest := []) (k_X9_noMatch hfl h_m h_v) h_m rfl hY_X9_noMatch mm_X9_102 mi_X9_noMatch ml_X9_noMatch ⟨(Nat.le_of_ble_eq_true rfl), (Nat.le_of_ble_eq_true rfl)⟩ rfl hl.1 rfl (Nat.le_of_ble_eq_true rfl) dX9_refusesBall_1 ⟨(Nat.le_of_ble_eq_true rfl), (Nat.le_of_ble_eq_true rfl)⟩) (kx_no rfl) (fun r13 u12 H locs hp11 G => ?_)
  obtain ⟨rfl, eu12⟩ := hp11
  rw [eu12] at G
  refine lv_iconst (v := 1) hx hb dX9_refusesBall_4 (by decide) ?_
  have J16 : ∀ (y15 : Int32) (_ : y15 = nI (X9_refusesBall_n1 g)) (H : Heap) (locs : List Loc) (ls : Array Slot), hG D (hA f sz) f s9 H locs → lv_has ls 1 [(0, .ref m)] → W p9 l e9 ({ frames := 1, cells := 0, slots := 0, locals := 20 } : Room) s9 m9 ([.ref m] : List Value).toArray b9 t9 c9 H locs 0 0 (vx_MQ b9 (hQi (fun r u => r = (X9_refusesBall_r2 g) ∧ u = f) D f sz) (hPx hNo D f sz) ([.ref m] : List Value).toArray s9 0 0 (hA f sz)) (F0 m9 27 ls [.int y15]) := by
    intro y15 ey15 H locs ls G hl
    subst ey15
    exact g_iret C0 G hr dX9_refusesBall_27 (Nat.le_of_ble_eq_true rfl) (Nat.le_of_ble_eq_true rfl) (by exact ⟨(by rw [X9_refusesBall_r2]), rfl⟩)
  refine lv_icmp_ne (tgt := 12) hx hb dX9_refusesBall_5 (by decide) (fun c14 => ?_) (fun c14 => ?_)
  · refine lv_aload_n hx hb dX9_refusesBall_12 rfl (lv_at hl 0 rfl) ?_
    refine g_get C0 G h_m rfl hiX9 2 (by decide) mf_X9_9 rfl dX9_refusesBall_13 ?_
    refine lv_bipush (v := 9) hx hb dX9_refusesBall_16 (by decide) ?_
    refine g_iald C0 G h_v 0 rfl (by unfold vp_in; decide) dX9_refusesBall_18 ?_
    refine lv_topv (v := g 9) rfl ?_
    have J20 : ∀ (y19 : Int32) (_ : y19 = nI (X9_refusesBall_n0 g)) (H : Heap) (locs : List Loc) (ls : Array Slot), hG D (hA f sz) f s9 H locs → lv_has ls 1 [(0, .ref m)] → W p9 l e9 ({ frames := 1, cells := 0, slots := 0, locals := 20 } : Room) s9 m9 ([.ref m] : List Value).toArray b9 t9 c9 H locs 0 0 (vx_MQ b9 (hQi (fun r u => r = (X9_refusesBall_r2 g) ∧ u = f) D f sz) (hPx hNo D f sz) ([.ref m] : List Value).toArray s9 0 0 (hA f sz)) (F0 m9 27 ls [.int y19]) := by
      intro y19 ey19 H locs ls G hl
      subst ey19
      have bd22 : (X9_refusesBall_n0 g) ≤ 3 := by unfold X9_refusesBall_n0; repeat (first | omega | split)
      exact J16 (nI (X9_refusesBall_n0 g)) (by rw [X9_refusesBall_n1, if_neg c14] <;> rfl) _ _ _ G (lv_sub hl [0] rfl)
    refine lv_if_ge (tgt := 26) hx hb dX9_refusesBall_19 (by decide) (fun c18 => ?_) (fun c18 => ?_)
    · refine lv_iconst (v := 0) hx hb dX9_refusesBall_26 (by decide) ?_
      exact J20 0 (by rw [X9_refusesBall_n0, if_pos c18] <;> rfl) _ _ _ G (lv_sub hl [0] rfl)
    · refine lv_iconst (v := 3) hx hb dX9_refusesBall_22 (by decide) ?_
      refine lv_goto (tgt := 27) hx hb dX9_refusesBall_23 (by decide) ?_
      exact J20 3 (by rw [X9_refusesBall_n0, if_neg c18] <;> rfl) _ _ _ G (lv_sub hl [0] rfl)
  · refine lv_iconst (v := 1) hx hb dX9_refusesBall_8 (by decide) ?_
    refine lv_goto (tgt := 27) hx hb dX9_refusesBall_9 (by decide) ?_
    exact J16 1 (by rw [X9_refusesBall_n1, if_pos c14] <;> rfl) _ _ _ G (lv_sub hl [0] rfl)
def X9_refusesWicket_x0 (way : Int32) : Int32 := if way = 5 then 1 else 0
def X9_refusesWicket_x1 (way : Int32) : Int32 := if way = 3 then 1 else 0
def X9_refusesWicket_x2 (way : Int32) (kind : Int32) : Int32 := if kind = 1 then (X9_refusesWicket_x1 way) else 0
def X9_refusesWicket_x3 (way : Int32) (kind : Int32) : Int32 := if kind = 0 then 1 else (X9_refusesWicket_x2 way kind)
def X9_refusesWicket_x4 (way : Int32) (kind : Int32) : Int32 := if (X9_refusesWicket_x0 way) = 0 then (X9_refusesWicket_x3 way kind) else 1
def X9_refusesWicket_n5 (way : Int32) : Nat := if way = 1 then 0 else 6
def X9_refusesWicket_n6 (way : Int32) : Nat := if (X9_refusesWicket_x0 way) = 0 then (X9_refusesWicket_n5 way) else 0
def X9_refusesWicket_n7 (way : Int32) (cro : Int32) : Nat := if cro = 0 then 0 else (X9_refusesWicket_n6 way)
def X9_refusesWicket_n8 (way : Int32) (ru : Int32) (cro : Int32) : Nat := if 0 < ru then 6 else (X9_refusesWicket_n7 way cro)
def X9_refusesWicket_n9 (way : Int32) (oth : Int32) (ru : Int32) (cro : Int32) : Nat := if oth = 0 then (X9_refusesWicket_n8 way ru cro) else 6
def X9_refusesWicket_n10 (way : Int32) (oth : Int32) (ru : Int32) (cro : Int32) : Nat := if (X9_refusesWicket_x0 way) = 0 then (X9_refusesWicket_n9 way oth ru cro) else (X9_refusesWicket_n7 way cro)
def X9_refusesWicket_n11 (way : Int32) (kind : Int32) (oth : Int32) (ru : Int32) (cro : Int32) : Nat := if (X9_refusesWicket_x4 way kind) = 0 then 6 else (X9_refusesWicket_n10 way oth ru cro)
def X9_refusesWicket_r12 (g : Nat → Int32) (way : Int32) (kind : Int32) (oth : Int32) (ru : Int32) (cro : Int32) : Int32 := if (X9_refusesBall_r2 g) ≤ 0 then (nI (X9_refusesWicket_n11 way kind oth ru cro)) else (X9_refusesBall_r2 g)
set_option maxRecDepth 100000 in
theorem k_X9_refusesWicket {l : Launch} (hfl : l.stackTraces = false) {D : va_G} {cy : Nat → ClassId} {f : Hf} {sz : Nat} {m : Nat} {v : Nat} {im : Nat} {kp : Nat} {pa : Nat} {de : Nat} {ide : Nat} {tx : Nat} {pt : Nat} {so : Nat} {mo : Nat} {wh : Nat} {pf : Nat} {c_th : Int32} {c_re : Int32} {c_un : Int32} {c_hi : Int32} {c_tn : Int32} {c_fa : Int32} {c_rf : Int32} {c_ps : Int32} {c_pl : Int32} {c_to : Int32} {g : Nat → Int32} (way : Int32) (kind : Int32) (oth : Int32) (ru : Int32) (cro : Int32) (h_m : f m = some (.inr (11, [.int c_th, .int c_re, .ref v, .ref im, .ref kp, .ref pa, .ref de, .ref ide, .int c_un, .int c_hi, .ref tx, .int c_tn, .int c_fa, .int c_rf, .ref pt, .int c_ps, .int c_pl, .int c_to, .ref so, .ref mo, .ref wh, .ref pf]))) (h_v : f v = some (.inl (cy 0, 6441, .inl g))) (hb_oth : oth = 0 ∨ oth = 1) (hb_cro : cro = 0 ∨ cro = 1) : hMet l yX9_refusesWicket cX9_refusesWicket 8 (some .int) { frames := 2, cells := 0, slots := 0, locals := 40 } D (hTy cy) f sz [.ref m, .int way, .int kind, .int oth, .int ru, .int cro] (hQi (fun r u => r = (X9_refusesWicket_r12 g way kind oth ru cro) ∧ u = f) D f sz) hNo := by
  refine h_enter (by decide) hfl (Nat.le_of_ble_eq_true rfl) ?_
  intro p9 e9 s9 m9 b9 t9 c9 hsz C0 hr hnm G ls hl
  have hx := C0.1.1
  have hb := C0.1.2.1
  have hl : lv_has ls 8 [(0, .ref m), (1, .int way), (2, .int kind), (3, .int oth), (4, .int ru), (5, .int cro)] := hl
  refine lv_aload_n hx hb dX9_refusesWicket_0 rfl (lv_at hl 0 rfl) ?_
  refine g_cI C0 G (g_runV C0 G (rest := []) (k_X9_refusesBall hfl h_m h_v) h_m rfl hY_X9_refusesBall mm_X9_108 mi_X9_refusesBall ml_X9_refusesBall ⟨(Nat.le_of_ble_eq_true rfl), (Nat.le_of_ble_eq_true rfl)⟩ rfl hl.1 rfl (Nat.le_of_ble_eq_true rfl) dX9_refusesWicket_1 ⟨(Nat.le_of_ble_eq_true rfl), (Nat.le_of_ble_eq_true rfl)⟩) (kx_no rfl) (fun r13 u12 H locs hp11 G => ?_)
  obtain ⟨rfl, eu12⟩ := hp11
  rw [eu12] at G
  refine lv_if_le (tgt := 12) hx hb dX9_refusesWicket_4 (by decide) (fun c14 => ?_) (fun c14 => ?_)
  · refine lv_iload_n hx hb dX9_refusesWicket_12 rfl (lv_at hl 1 rfl) ?_
    refine lv_iconst (v := 5) hx hb dX9_refusesWicket_13 (by decide) ?_
    have J17 : ∀ (y16 : Int32) (_ : y16 = (X9_refusesWicket_x0 way)) (H : Heap) (locs : List Loc) (ls : Array Slot), hG D (hA f sz) f s9 H locs → lv_has ls 8 [(0, .ref m), (1, .int way), (2, .int kind), (3, .int oth), (4, .int ru), (5, .int cro)] → W p9 l e9 ({ frames := 2, cells := 0, slots := 0, locals := 40 } : Room) s9 m9 ([.ref m, .int way, .int kind, .int oth, .int ru, .int cro] : List Value).toArray b9 t9 c9 H locs 0 0 (vx_MQ b9 (hQi (fun r u => r = (X9_refusesWicket_r12 g way kind oth ru cro) ∧ u = f) D f sz) (hPx hNo D f sz) ([.ref m, .int way, .int kind, .int oth, .int ru, .int cro] : List Value).toArray s9 0 0 (hA f sz)) (F0 m9 22 ls [.int y16]) := by
      intro y16 ey16 H locs ls G hl
      subst ey16
      refine lv_istore (lv' := [(6, .int (X9_refusesWicket_x0 way)), (0, .ref m), (1, .int way), (2, .int kind), (3, .int oth), (4, .int ru), (5, .int cro)]) hx hb dX9_refusesWicket_22 hl (by decide) rfl (fun ls hl => ?_)
      refine lv_iload hx hb dX9_refusesWicket_24 (lv_at hl 0 rfl) ?_
      have J21 : ∀ (y20 : Int32) (_ : y20 = (X9_refusesWicket_x4 way kind)) (H : Heap) (locs : List Loc) (ls : Array Slot), hG D (hA f sz) f s9 H locs → lv_has ls 8 [(6, .int (X9_refusesWicket_x0 way)), (0, .ref m), (1, .int way), (2, .int kind), (3, .int oth), (4, .int ru), (5, .int cro)] → W p9 l e9 ({ frames := 2, cells := 0, slots := 0, locals := 40 } : Room) s9 m9 ([.ref m, .int way, .int kind, .int oth, .int ru, .int cro] : List Value).toArray b9 t9 c9 H locs 0 0 (vx_MQ b9 (hQi (fun r u => r = (X9_refusesWicket_r12 g way kind oth ru cro) ∧ u = f) D f sz) (hPx hNo D f sz) ([.ref m, .int way, .int kind, .int oth, .int ru, .int cro] : List Value).toArray s9 0 0 (hA f sz)) (F0 m9 48 ls [.int y20]) := by
        intro y20 ey20 H locs ls G hl
        subst ey20
        refine lv_istore (lv' := [(7, .int (X9_refusesWicket_x4 way kind)), (6, .int (X9_refusesWicket_x0 way)), (0, .ref m), (1, .int way), (2, .int kind), (3, .int oth), (4, .int ru), (5, .int cro)]) hx hb dX9_refusesWicket_48 hl (by decide) rfl (fun ls hl => ?_)
        refine lv_iload hx hb dX9_refusesWicket_50 (lv_at hl 0 rfl) ?_
        have J25 : ∀ (y24 : Int32) (_ : y24 = nI (X9_refusesWicket_n11 way kind oth ru cro)) (H : Heap) (locs : List Loc) (ls : Array Slot), hG D (hA f sz) f s9 H locs → lv_has ls 8 [(7, .int (X9_refusesWicket_x4 way kind)), (6, .int (X9_refusesWicket_x0 way)), (0, .ref m), (1, .int way), (2, .int kind), (3, .int oth), (4, .int ru), (5, .int cro)] → W p9 l e9 ({ frames := 2, cells := 0, slots := 0, locals := 40 } : Room) s9 m9 ([.ref m, .int way, .int kind, .int oth, .int ru, .int cro] : List Value).toArray b9 t9 c9 H locs 0 0 (vx_MQ b9 (hQi (fun r u => r = (X9_refusesWicket_r12 g way kind oth ru cro) ∧ u = f) D f sz) (hPx hNo D f sz) ([.ref m, .int way, .int kind, .int oth, .int ru, .int cro] : List Value).toArray s9 0 0 (hA f sz)) (F0 m9 90 ls [.int y24]) := by
          intro y24 ey24 H locs ls G hl
          subst ey24
          exact g_iret C0 G hr dX9_refusesWicket_90 (Nat.le_of_ble_eq_true rfl) (Nat.le_of_ble_eq_true rfl) (by exact ⟨(by rw [X9_refusesWicket_r12, if_pos c14]), rfl⟩)
        refine lv_if_eq (tgt := 84) hx hb dX9_refusesWicket_52 (by decide) (fun c23 => ?_) (fun c23 => ?_)
        · refine lv_bipush (v := 6) hx hb dX9_refusesWicket_84 (by decide) ?_
          refine lv_goto (tgt := 90) hx hb dX9_refusesWicket_86 (by decide) ?_
          exact J25 6 (by rw [X9_refusesWicket_n11, if_pos c23] <;> rfl) _ _ _ G (lv_sub hl [0, 1, 2, 3, 4, 5, 6, 7] rfl)
        · refine lv_iload hx hb dX9_refusesWicket_55 (lv_at hl 1 rfl) ?_
          have J29 : ∀ (y28 : Int32) (_ : y28 = nI (X9_refusesWicket_n10 way oth ru cro)) (H : Heap) (locs : List Loc) (ls : Array Slot), hG D (hA f sz) f s9 H locs → lv_has ls 8 [(7, .int (X9_refusesWicket_x4 way kind)), (6, .int (X9_refusesWicket_x0 way)), (0, .ref m), (1, .int way), (2, .int kind), (3, .int oth), (4, .int ru), (5, .int cro)] → W p9 l e9 ({ frames := 2, cells := 0, slots := 0, locals := 40 } : Room) s9 m9 ([.ref m, .int way, .int kind, .int oth, .int ru, .int cro] : List Value).toArray b9 t9 c9 H locs 0 0 (vx_MQ b9 (hQi (fun r u => r = (X9_refusesWicket_r12 g way kind oth ru cro) ∧ u = f) D f sz) (hPx hNo D f sz) ([.ref m, .int way, .int kind, .int oth, .int ru, .int cro] : List Value).toArray s9 0 0 (hA f sz)) (F0 m9 90 ls [.int y28]) := by
            intro y28 ey28 H locs ls G hl
            subst ey28
            exact J25 (nI (X9_refusesWicket_n10 way oth ru cro)) (by rw [X9_refusesWicket_n11, if_neg c23] <;> rfl) _ _ _ G (lv_sub hl [0, 1, 2, 3, 4, 5, 6, 7] rfl)
          refine lv_if_ne (tgt := 69) hx hb dX9_refusesWicket_57 (by decide) (fun c27 => ?_) (fun c27 => ?_)
          · refine lv_iload hx hb dX9_refusesWicket_69 (lv_at hl 7 rfl) ?_
            have J33 : ∀ (y32 : Int32) (_ : y32 = nI (X9_refusesWicket_n7 way cro)) (H : Heap) (locs : List Loc) (ls : Array Slot), hG D (hA f sz) f s9 H locs → lv_has ls 8 [(7, .int (X9_refusesWicket_x4 way kind)), (6, .int (X9_refusesWicket_x0 way)), (0, .ref m), (1, .int way), (2, .int kind), (3, .int oth), (4, .int ru), (5, .int cro)] → W p9 l e9 ({ frames := 2, cells := 0, slots := 0, locals := 40 } : Room) s9 m9 ([.ref m, .int way, .int kind, .int oth, .int ru, .int cro] : List Value).toArray b9 t9 c9 H locs 0 0 (vx_MQ b9 (hQi (fun r u => r = (X9_refusesWicket_r12 g way kind oth ru cro) ∧ u = f) D f sz) (hPx hNo D f sz) ([.ref m, .int way, .int kind, .int oth, .int ru, .int cro] : List Value).toArray s9 0 0 (hA f sz)) (F0 m9 90 ls [.int y32]) := by
              intro y32 ey32 H locs ls G hl
              subst ey32
              exact J29 (nI (X9_refusesWicket_n7 way cro)) (by rw [X9_refusesWicket_n10, if_neg c27] <;> rfl) _ _ _ G (lv_sub hl [0, 1, 2, 3, 4, 5, 6, 7] rfl)
            refine lv_if_eq (tgt := 89) hx hb dX9_refusesWicket_71 (by decide) (fun c31 => ?_) (fun c31 => ?_)
            · refine lv_iconst (v := 0) hx hb dX9_refusesWicket_89 (by decide) ?_
              exact J33 0 (by rw [X9_refusesWicket_n7, if_pos c31] <;> rfl) _ _ _ G (lv_sub hl [0, 1, 2, 3, 4, 5, 6, 7] rfl)
            · refine lv_iload hx hb dX9_refusesWicket_74 (lv_at hl 1 rfl) ?_
              have J37 : ∀ (y36 : Int32) (_ : y36 = nI (X9_refusesWicket_n6 way)) (H : Heap) (locs : List Loc) (ls : Array Slot), hG D (hA f sz) f s9 H locs → lv_has ls 8 [(7, .int (X9_refusesWicket_x4 way kind)), (6, .int (X9_refusesWicket_x0 way)), (0, .ref m), (1, .int way), (2, .int kind), (3, .int oth), (4, .int ru), (5, .int cro)] → W p9 l e9 ({ frames := 2, cells := 0, slots := 0, locals := 40 } : Room) s9 m9 ([.ref m, .int way, .int kind, .int oth, .int ru, .int cro] : List Value).toArray b9 t9 c9 H locs 0 0 (vx_MQ b9 (hQi (fun r u => r = (X9_refusesWicket_r12 g way kind oth ru cro) ∧ u = f) D f sz) (hPx hNo D f sz) ([.ref m, .int way, .int kind, .int oth, .int ru, .int cro] : List Value).toArray s9 0 0 (hA f sz)) (F0 m9 90 ls [.int y36]) := by
                intro y36 ey36 H locs ls G hl
                subst ey36
                exact J33 (nI (X9_refusesWicket_n6 way)) (by rw [X9_refusesWicket_n7, if_neg c31] <;> rfl) _ _ _ G (lv_sub hl [0, 1, 2, 3, 4, 5, 6, 7] rfl)
              refine lv_if_ne (tgt := 89) hx hb dX9_refusesWicket_76 (by decide) (fun c35 => ?_) (fun c35 => ?_)
              · refine lv_iconst (v := 0) hx hb dX9_refusesWicket_89 (by decide) ?_
                exact J37 0 (by rw [X9_refusesWicket_n6, if_neg c35] <;> rfl) _ _ _ G (lv_sub hl [0, 1, 2, 3, 4, 5, 6, 7] rfl)
              · refine lv_iload_n hx hb dX9_refusesWicket_79 rfl (lv_at hl 3 rfl) ?_
                refine lv_iconst (v := 1) hx hb dX9_refusesWicket_80 (by decide) ?_
                have J41 : ∀ (y40 : Int32) (_ : y40 = nI (X9_refusesWicket_n5 way)) (H : Heap) (locs : List Loc) (ls : Array Slot), hG D (hA f sz) f s9 H locs → lv_has ls 8 [(7, .int (X9_refusesWicket_x4 way kind)), (6, .int (X9_refusesWicket_x0 way)), (0, .ref m), (1, .int way), (2, .int kind), (3, .int oth), (4, .int ru), (5, .int cro)] → W p9 l e9 ({ frames := 2, cells := 0, slots := 0, locals := 40 } : Room) s9 m9 ([.ref m, .int way, .int kind, .int oth, .int ru, .int cro] : List Value).toArray b9 t9 c9 H locs 0 0 (vx_MQ b9 (hQi (fun r u => r = (X9_refusesWicket_r12 g way kind oth ru cro) ∧ u = f) D f sz) (hPx hNo D f sz) ([.ref m, .int way, .int kind, .int oth, .int ru, .int cro] : List Value).toArray s9 0 0 (hA f sz)) (F0 m9 90 ls [.int y40]) := by
                  intro y40 ey40 H locs ls G hl
                  subst ey40
                  have bd43 : (X9_refusesWicket_n5 way) ≤ 6 := by unfold X9_refusesWicket_n5; repeat (first | omega | split)
                  exact J37 (nI (X9_refusesWicket_n5 way)) (by rw [X9_refusesWicket_n6, if_pos c35] <;> rfl) _ _ _ G (lv_sub hl [0, 1, 2, 3, 4, 5, 6, 7] rfl)
                refine lv_icmp_eq (tgt := 89) hx hb dX9_refusesWicket_81 (by decide) (fun c39 => ?_) (fun c39 => ?_)
                · refine lv_iconst (v := 0) hx hb dX9_refusesWicket_89 (by decide) ?_
                  exact J41 0 (by rw [X9_refusesWicket_n5, if_pos c39] <;> rfl) _ _ _ G (lv_sub hl [0, 1, 2, 3, 4, 5, 6, 7] rfl)
                · refine lv_bipush (v := 6) hx hb dX9_refusesWicket_84 (by decide) ?_
                  refine lv_goto (tgt := 90) hx hb dX9_refusesWicket_86 (by decide) ?_
                  exact J41 6 (by rw [X9_refusesWicket_n5, if_neg c39] <;> rfl) _ _ _ G (lv_sub hl [0, 1, 2, 3, 4, 5, 6, 7] rfl)
          · refine lv_iload_n hx hb dX9_refusesWicket_60 rfl (lv_at hl 5 rfl) ?_
            have J46 : ∀ (y45 : Int32) (_ : y45 = nI (X9_refusesWicket_n9 way oth ru cro)) (H : Heap) (locs : List Loc) (ls : Array Slot), hG D (hA f sz) f s9 H locs → lv_has ls 8 [(7, .int (X9_refusesWicket_x4 way kind)), (6, .int (X9_refusesWicket_x0 way)), (0, .ref m), (1, .int way), (2, .int kind), (3, .int oth), (4, .int ru), (5, .int cro)] → W p9 l e9 ({ frames := 2, cells := 0, slots := 0, locals := 40 } : Room) s9 m9 ([.ref m, .int way, .int kind, .int oth, .int ru, .int cro] : List Value).toArray b9 t9 c9 H locs 0 0 (vx_MQ b9 (hQi (fun r u => r = (X9_refusesWicket_r12 g way kind oth ru cro) ∧ u = f) D f sz) (hPx hNo D f sz) ([.ref m, .int way, .int kind, .int oth, .int ru, .int cro] : List Value).toArray s9 0 0 (hA f sz)) (F0 m9 90 ls [.int y45]) := by
              intro y45 ey45 H locs ls G hl
              subst ey45
              exact J29 (nI (X9_refusesWicket_n9 way oth ru cro)) (by rw [X9_refusesWicket_n10, if_pos c27] <;> rfl) _ _ _ G (lv_sub hl [0, 1, 2, 3, 4, 5, 6, 7] rfl)
            refine lv_if_ne (tgt := 84) hx hb dX9_refusesWicket_61 (by decide) (fun c44 => ?_) (fun c44 => ?_)
            · refine lv_bipush (v := 6) hx hb dX9_refusesWicket_84 (by decide) ?_
              refine lv_goto (tgt := 90) hx hb dX9_refusesWicket_86 (by decide) ?_
              exact J46 6 (by rw [X9_refusesWicket_n9, if_neg c44] <;> rfl) _ _ _ G (lv_sub hl [0, 1, 2, 3, 4, 5, 6, 7] rfl)
            · refine lv_iload hx hb dX9_refusesWicket_64 (lv_at hl 6 rfl) ?_
              have J50 : ∀ (y49 : Int32) (_ : y49 = nI (X9_refusesWicket_n8 way ru cro)) (H : Heap) (locs : List Loc) (ls : Array Slot), hG D (hA f sz) f s9 H locs → lv_has ls 8 [(7, .int (X9_refusesWicket_x4 way kind)), (6, .int (X9_refusesWicket_x0 way)), (0, .ref m), (1, .int way), (2, .int kind), (3, .int oth), (4, .int ru), (5, .int cro)] → W p9 l e9 ({ frames := 2, cells := 0, slots := 0, locals := 40 } : Room) s9 m9 ([.ref m, .int way, .int kind, .int oth, .int ru, .int cro] : List Value).toArray b9 t9 c9 H locs 0 0 (vx_MQ b9 (hQi (fun r u => r = (X9_refusesWicket_r12 g way kind oth ru cro) ∧ u = f) D f sz) (hPx hNo D f sz) ([.ref m, .int way, .int kind, .int oth, .int ru, .int cro] : List Value).toArray s9 0 0 (hA f sz)) (F0 m9 90 ls [.int y49]) := by
                intro y49 ey49 H locs ls G hl
                subst ey49
                exact J46 (nI (X9_refusesWicket_n8 way ru cro)) (by rw [X9_refusesWicket_n9, if_pos c44] <;> rfl) _ _ _ G (lv_sub hl [0, 1, 2, 3, 4, 5, 6, 7] rfl)
              refine lv_if_gt (tgt := 84) hx hb dX9_refusesWicket_66 (by decide) (fun c48 => ?_) (fun c48 => ?_)
              · refine lv_bipush (v := 6) hx hb dX9_refusesWicket_84 (by decide) ?_
                refine lv_goto (tgt := 90) hx hb dX9_refusesWicket_86 (by decide) ?_
                exact J50 6 (by rw [X9_refusesWicket_n8, if_pos c48] <;> rfl) _ _ _ G (lv_sub hl [0, 1, 2, 3, 4, 5, 6, 7] rfl)
              · refine lv_iload hx hb dX9_refusesWicket_69 (lv_at hl 7 rfl) ?_
                have J54 : ∀ (y53 : Int32) (_ : y53 = nI (X9_refusesWicket_n7 way cro)) (H : Heap) (locs : List Loc) (ls : Array Slot), hG D (hA f sz) f s9 H locs → lv_has ls 8 [(7, .int (X9_refusesWicket_x4 way kind)), (6, .int (X9_refusesWicket_x0 way)), (0, .ref m), (1, .int way), (2, .int kind), (3, .int oth), (4, .int ru), (5, .int cro)] → W p9 l e9 ({ frames := 2, cells := 0, slots := 0, locals := 40 } : Room) s9 m9 ([.ref m, .int way, .int kind, .int oth, .int ru, .int cro] : List Value).toArray b9 t9 c9 H locs 0 0 (vx_MQ b9 (hQi (fun r u => r = (X9_refusesWicket_r12 g way kind oth ru cro) ∧ u = f) D f sz) (hPx hNo D f sz) ([.ref m, .int way, .int kind, .int oth, .int ru, .int cro] : List Value).toArray s9 0 0 (hA f sz)) (F0 m9 90 ls [.int y53]) := by
                  intro y53 ey53 H locs ls G hl
                  subst ey53
                  exact J50 (nI (X9_refusesWicket_n7 way cro)) (by rw [X9_refusesWicket_n8, if_neg c48] <;> rfl) _ _ _ G (lv_sub hl [0, 1, 2, 3, 4, 5, 6, 7] rfl)
                refine lv_if_eq (tgt := 89) hx hb dX9_refusesWicket_71 (by decide) (fun c52 => ?_) (fun c52 => ?_)
                · refine lv_iconst (v := 0) hx hb dX9_refusesWicket_89 (by decide) ?_
                  exact J54 0 (by rw [X9_refusesWicket_n7, if_pos c52] <;> rfl) _ _ _ G (lv_sub hl [0, 1, 2, 3, 4, 5, 6, 7] rfl)
                · refine lv_iload hx hb dX9_refusesWicket_74 (lv_at hl 1 rfl) ?_
                  have J58 : ∀ (y57 : Int32) (_ : y57 = nI (X9_refusesWicket_n6 way)) (H : Heap) (locs : List Loc) (ls : Array Slot), hG D (hA f sz) f s9 H locs → lv_has ls 8 [(7, .int (X9_refusesWicket_x4 way kind)), (6, .int (X9_refusesWicket_x0 way)), (0, .ref m), (1, .int way), (2, .int kind), (3, .int oth), (4, .int ru), (5, .int cro)] → W p9 l e9 ({ frames := 2, cells := 0, slots := 0, locals := 40 } : Room) s9 m9 ([.ref m, .int way, .int kind, .int oth, .int ru, .int cro] : List Value).toArray b9 t9 c9 H locs 0 0 (vx_MQ b9 (hQi (fun r u => r = (X9_refusesWicket_r12 g way kind oth ru cro) ∧ u = f) D f sz) (hPx hNo D f sz) ([.ref m, .int way, .int kind, .int oth, .int ru, .int cro] : List Value).toArray s9 0 0 (hA f sz)) (F0 m9 90 ls [.int y57]) := by
                    intro y57 ey57 H locs ls G hl
                    subst ey57
                    exact J54 (nI (X9_refusesWicket_n6 way)) (by rw [X9_refusesWicket_n7, if_neg c52] <;> rfl) _ _ _ G (lv_sub hl [0, 1, 2, 3, 4, 5, 6, 7] rfl)
                  refine lv_if_ne (tgt := 89) hx hb dX9_refusesWicket_76 (by decide) (fun c56 => ?_) (fun c56 => ?_)
                  · refine lv_iconst (v := 0) hx hb dX9_refusesWicket_89 (by decide) ?_
                    exact J58 0 (by rw [X9_refusesWicket_n6, if_neg c56] <;> rfl) _ _ _ G (lv_sub hl [0, 1, 2, 3, 4, 5, 6, 7] rfl)
                  · refine lv_iload_n hx hb dX9_refusesWicket_79 rfl (lv_at hl 3 rfl) ?_
                    refine lv_iconst (v := 1) hx hb dX9_refusesWicket_80 (by decide) ?_
                    have J62 : ∀ (y61 : Int32) (_ : y61 = nI (X9_refusesWicket_n5 way)) (H : Heap) (locs : List Loc) (ls : Array Slot), hG D (hA f sz) f s9 H locs → lv_has ls 8 [(7, .int (X9_refusesWicket_x4 way kind)), (6, .int (X9_refusesWicket_x0 way)), (0, .ref m), (1, .int way), (2, .int kind), (3, .int oth), (4, .int ru), (5, .int cro)] → W p9 l e9 ({ frames := 2, cells := 0, slots := 0, locals := 40 } : Room) s9 m9 ([.ref m, .int way, .int kind, .int oth, .int ru, .int cro] : List Value).toArray b9 t9 c9 H locs 0 0 (vx_MQ b9 (hQi (fun r u => r = (X9_refusesWicket_r12 g way kind oth ru cro) ∧ u = f) D f sz) (hPx hNo D f sz) ([.ref m, .int way, .int kind, .int oth, .int ru, .int cro] : List Value).toArray s9 0 0 (hA f sz)) (F0 m9 90 ls [.int y61]) := by
                      intro y61 ey61 H locs ls G hl
                      subst ey61
                      have bd64 : (X9_refusesWicket_n5 way) ≤ 6 := by unfold X9_refusesWicket_n5; repeat (first | omega | split)
                      exact J58 (nI (X9_refusesWicket_n5 way)) (by rw [X9_refusesWicket_n6, if_pos c56] <;> rfl) _ _ _ G (lv_sub hl [0, 1, 2, 3, 4, 5, 6, 7] rfl)
                    refine lv_icmp_eq (tgt := 89) hx hb dX9_refusesWicket_81 (by decide) (fun c60 => ?_) (fun c60 => ?_)
                    · refine lv_iconst (v := 0) hx hb dX9_refusesWicket_89 (by decide) ?_
                      exact J62 0 (by rw [X9_refusesWicket_n5, if_pos c60] <;> rfl) _ _ _ G (lv_sub hl [0, 1, 2, 3, 4, 5, 6, 7] rfl)
                    · refine lv_bipush (v := 6) hx hb dX9_refusesWicket_84 (by decide) ?_
                      refine lv_goto (tgt := 90) hx hb dX9_refusesWicket_86 (by decide) ?_
                      exact J62 6 (by rw [X9_refusesWicket_n5, if_neg c60] <;> rfl) _ _ _ G (lv_sub hl [0, 1, 2, 3, 4, 5, 6, 7] rfl)
      refine lv_if_ne (tgt := 43) hx hb dX9_refusesWicket_26 (by decide) (fun c19 => ?_) (fun c19 => ?_)
      · refine lv_iconst (v := 1) hx hb dX9_refusesWicket_43 (by decide) ?_
        refine lv_goto (tgt := 48) hx hb dX9_refusesWicket_44 (by decide) ?_
        exact J21 1 (by rw [X9_refusesWicket_x4, if_neg c19]) _ _ _ G (lv_sub hl [0, 1, 2, 3, 4, 5, 6] rfl)
      · refine lv_iload_n hx hb dX9_refusesWicket_29 rfl (lv_at hl 3 rfl) ?_
        have J67 : ∀ (y66 : Int32) (_ : y66 = (X9_refusesWicket_x3 way kind)) (H : Heap) (locs : List Loc) (ls : Array Slot), hG D (hA f sz) f s9 H locs → lv_has ls 8 [(6, .int (X9_refusesWicket_x0 way)), (0, .ref m), (1, .int way), (2, .int kind), (3, .int oth), (4, .int ru), (5, .int cro)] → W p9 l e9 ({ frames := 2, cells := 0, slots := 0, locals := 40 } : Room) s9 m9 ([.ref m, .int way, .int kind, .int oth, .int ru, .int cro] : List Value).toArray b9 t9 c9 H locs 0 0 (vx_MQ b9 (hQi (fun r u => r = (X9_refusesWicket_r12 g way kind oth ru cro) ∧ u = f) D f sz) (hPx hNo D f sz) ([.ref m, .int way, .int kind, .int oth, .int ru, .int cro] : List Value).toArray s9 0 0 (hA f sz)) (F0 m9 48 ls [.int y66]) := by
          intro y66 ey66 H locs ls G hl
          subst ey66
          exact J21 (X9_refusesWicket_x3 way kind) (by rw [X9_refusesWicket_x4, if_pos c19]) _ _ _ G (lv_sub hl [0, 1, 2, 3, 4, 5, 6] rfl)
        refine lv_if_eq (tgt := 43) hx hb dX9_refusesWicket_30 (by decide) (fun c65 => ?_) (fun c65 => ?_)
        · refine lv_iconst (v := 1) hx hb dX9_refusesWicket_43 (by decide) ?_
          refine lv_goto (tgt := 48) hx hb dX9_refusesWicket_44 (by decide) ?_
          exact J67 1 (by rw [X9_refusesWicket_x3, if_pos c65]) _ _ _ G (lv_sub hl [0, 1, 2, 3, 4, 5, 6] rfl)
        · refine lv_iload_n hx hb dX9_refusesWicket_33 rfl (lv_at hl 3 rfl) ?_
          refine lv_iconst (v := 1) hx hb dX9_refusesWicket_34 (by decide) ?_
          have J71 : ∀ (y70 : Int32) (_ : y70 = (X9_refusesWicket_x2 way kind)) (H : Heap) (locs : List Loc) (ls : Array Slot), hG D (hA f sz) f s9 H locs → lv_has ls 8 [(6, .int (X9_refusesWicket_x0 way)), (0, .ref m), (1, .int way), (2, .int kind), (3, .int oth), (4, .int ru), (5, .int cro)] → W p9 l e9 ({ frames := 2, cells := 0, slots := 0, locals := 40 } : Room) s9 m9 ([.ref m, .int way, .int kind, .int oth, .int ru, .int cro] : List Value).toArray b9 t9 c9 H locs 0 0 (vx_MQ b9 (hQi (fun r u => r = (X9_refusesWicket_r12 g way kind oth ru cro) ∧ u = f) D f sz) (hPx hNo D f sz) ([.ref m, .int way, .int kind, .int oth, .int ru, .int cro] : List Value).toArray s9 0 0 (hA f sz)) (F0 m9 48 ls [.int y70]) := by
            intro y70 ey70 H locs ls G hl
            subst ey70
            exact J67 (X9_refusesWicket_x2 way kind) (by rw [X9_refusesWicket_x3, if_neg c65]) _ _ _ G (lv_sub hl [0, 1, 2, 3, 4, 5, 6] rfl)
          refine lv_icmp_ne (tgt := 47) hx hb dX9_refusesWicket_35 (by decide) (fun c69 => ?_) (fun c69 => ?_)
          · refine lv_iconst (v := 0) hx hb dX9_refusesWicket_47 (by decide) ?_
            exact J71 0 (by rw [X9_refusesWicket_x2, if_neg c69]) _ _ _ G (lv_sub hl [0, 1, 2, 3, 4, 5, 6] rfl)
          · refine lv_iload_n hx hb dX9_refusesWicket_38 rfl (lv_at hl 2 rfl) ?_
            refine lv_iconst (v := 3) hx hb dX9_refusesWicket_39 (by decide) ?_
            have J75 : ∀ (y74 : Int32) (_ : y74 = (X9_refusesWicket_x1 way)) (H : Heap) (locs : List Loc) (ls : Array Slot), hG D (hA f sz) f s9 H locs → lv_has ls 8 [(6, .int (X9_refusesWicket_x0 way)), (0, .ref m), (1, .int way), (2, .int kind), (3, .int oth), (4, .int ru), (5, .int cro)] → W p9 l e9 ({ frames := 2, cells := 0, slots := 0, locals := 40 } : Room) s9 m9 ([.ref m, .int way, .int kind, .int oth, .int ru, .int cro] : List Value).toArray b9 t9 c9 H locs 0 0 (vx_MQ b9 (hQi (fun r u => r = (X9_refusesWicket_r12 g way kind oth ru cro) ∧ u = f) D f sz) (hPx hNo D f sz) ([.ref m, .int way, .int kind, .int oth, .int ru, .int cro] : List Value).toArray s9 0 0 (hA f sz)) (F0 m9 48 ls [.int y74]) := by
              intro y74 ey74 H locs ls G hl
              subst ey74
              exact J71 (X9_refusesWicket_x1 way) (by rw [X9_refusesWicket_x2, if_pos c69]) _ _ _ G (lv_sub hl [0, 1, 2, 3, 4, 5, 6] rfl)
            refine lv_icmp_ne (tgt := 47) hx hb dX9_refusesWicket_40 (by decide) (fun c73 => ?_) (fun c73 => ?_)
            · refine lv_iconst (v := 0) hx hb dX9_refusesWicket_47 (by decide) ?_
              exact J75 0 (by rw [X9_refusesWicket_x1, if_neg c73]) _ _ _ G (lv_sub hl [0, 1, 2, 3, 4, 5, 6] rfl)
            · refine lv_iconst (v := 1) hx hb dX9_refusesWicket_43 (by decide) ?_
              refine lv_goto (tgt := 48) hx hb dX9_refusesWicket_44 (by decide) ?_
              exact J75 1 (by rw [X9_refusesWicket_x1, if_pos c73]) _ _ _ G (lv_sub hl [0, 1, 2, 3, 4, 5, 6] rfl)
    refine lv_icmp_ne (tgt := 21) hx hb dX9_refusesWicket_14 (by decide) (fun c15 => ?_) (fun c15 => ?_)
    · refine lv_iconst (v := 0) hx hb dX9_refusesWicket_21 (by decide) ?_
      exact J17 0 (by rw [X9_refusesWicket_x0, if_neg c15]) _ _ _ G (lv_sub hl [0, 1, 2, 3, 4, 5] rfl)
    · refine lv_iconst (v := 1) hx hb dX9_refusesWicket_17 (by decide) ?_
      refine lv_goto (tgt := 22) hx hb dX9_refusesWicket_18 (by decide) ?_
      exact J17 1 (by rw [X9_refusesWicket_x0, if_pos c15]) _ _ _ G (lv_sub hl [0, 1, 2, 3, 4, 5] rfl)
  · refine lv_aload_n hx hb dX9_refusesWicket_7 rfl (lv_at hl 0 rfl) ?_
    refine g_cI C0 G (g_runV C0 G (rest := []) (k_X9_refusesBall hfl h_m h_v) h_m rfl hY_X9_refusesBall mm_X9_108 mi_X9_refusesBall ml_X9_refusesBall ⟨(Nat.le_of_ble_eq_true rfl), (Nat.le_of_ble_eq_true rfl)⟩ rfl hl.1 rfl (Nat.le_of_ble_eq_true rfl) dX9_refusesWicket_8 ⟨(Nat.le_of_ble_eq_true rfl), (Nat.le_of_ble_eq_true rfl)⟩) (kx_no rfl) (fun r79 u78 H locs hp77 G => ?_)
    obtain ⟨rfl, eu78⟩ := hp77
    rw [eu78] at G
    exact g_iret C0 G hr dX9_refusesWicket_11 (Nat.le_of_ble_eq_true rfl) (Nat.le_of_ble_eq_true rfl) (by exact ⟨(by rw [X9_refusesWicket_r12, if_neg c14]), rfl⟩)
set_option maxRecDepth 100000 in
theorem k_X9_refuses0 {l : Launch} (hfl : l.stackTraces = false) {D : va_G} {cy : Nat → ClassId} {f : Hf} {sz : Nat} {m : Nat} {v : Nat} {im : Nat} {kp : Nat} {pa : Nat} {de : Nat} {ide : Nat} {tx : Nat} {pt : Nat} {so : Nat} {mo : Nat} {wh : Nat} {pf : Nat} {c_th : Int32} {c_re : Int32} {c_un : Int32} {c_hi : Int32} {c_tn : Int32} {c_fa : Int32} {c_rf : Int32} {c_ps : Int32} {c_pl : Int32} {c_to : Int32} {g : Nat → Int32} {p1 : Nat} (p2 : Int32) (p3 : Int32) (p4 : Int32) (p5 : Int32) {i : Nat} (h_m : f m = some (.inr (11, [.int c_th, .int c_re, .ref v, .ref im, .ref kp, .ref pa, .ref de, .ref ide, .int c_un, .int c_hi, .ref tx, .int c_tn, .int c_fa, .int c_rf, .ref pt, .int c_ps, .int c_pl, .int c_to, .ref so, .ref mo, .ref wh, .ref pf]))) (h_v : f v = some (.inl (cy 0, 6441, .inl g))) (h4 : g 4 = nI i) (hi : i < 4) (hp : p1 < 11) : hMet l yX9_refuses cX9_refuses 7 (some .int) { frames := 2, cells := 0, slots := 0, locals := 44 } D (hTy cy) f sz [.ref m, .int 0, .int (nI p1), .int p2, .int p3, .int p4, .int p5] (hQi (fun r u => r = (X9_refusesBowl_r2 g p1 i) ∧ u = f) D f sz) hNo := by
  refine h_enter (by decide) hfl (Nat.le_of_ble_eq_true rfl) ?_
  intro p9 e9 s9 m9 b9 t9 c9 hsz C0 hr hnm G ls hl
  have hx := C0.1.1
  have hb := C0.1.2.1
  have hl : lv_has ls 7 [(0, .ref m), (1, .int 0), (2, .int (nI p1)), (3, .int p2), (4, .int p3), (5, .int p4), (6, .int p5)] := hl
  refine lv_iload_n hx hb dX9_refuses_0 rfl (lv_at hl 1 rfl) ?_
  refine lv_tableIn (off := 43) (tgt := 44) hx hb dX9_refuses_1 (by decide) (by decide) rfl (by decide) ?_
  refine lv_aload_n hx hb dX9_refuses_44 rfl (lv_at hl 0 rfl) ?_
  refine lv_iload_n hx hb dX9_refuses_45 rfl (lv_at hl 2 rfl) ?_
  refine g_cI C0 G (g_runV C0 G (rest := []) (k_X9_refusesBowl hfl h_m h_v h4 hi hp) h_m rfl hY_X9_refusesBowl mm_X9_111 mi_X9_refusesBowl ml_X9_refusesBowl ⟨(Nat.le_of_ble_eq_true rfl), (Nat.le_of_ble_eq_true rfl)⟩ rfl hl.1 rfl (Nat.le_of_ble_eq_true rfl) dX9_refuses_46 ⟨(Nat.le_of_ble_eq_true rfl), (Nat.le_of_ble_eq_true rfl)⟩) (kx_no rfl) (fun r13 u12 H locs hp11 G => ?_)
  obtain ⟨rfl, eu12⟩ := hp11
  rw [eu12] at G
  exact g_iret C0 G hr dX9_refuses_49 (Nat.le_of_ble_eq_true rfl) (Nat.le_of_ble_eq_true rfl) (by exact ⟨rfl, rfl⟩)
set_option maxRecDepth 100000 in
theorem k_X9_refuses1 {l : Launch} (hfl : l.stackTraces = false) {D : va_G} {cy : Nat → ClassId} {f : Hf} {sz : Nat} {m : Nat} {v : Nat} {im : Nat} {kp : Nat} {pa : Nat} {de : Nat} {ide : Nat} {tx : Nat} {pt : Nat} {so : Nat} {mo : Nat} {wh : Nat} {pf : Nat} {c_th : Int32} {c_re : Int32} {c_un : Int32} {c_hi : Int32} {c_tn : Int32} {c_fa : Int32} {c_rf : Int32} {c_ps : Int32} {c_pl : Int32} {c_to : Int32} {g : Nat → Int32} (p1 : Int32) (p2 : Int32) (p3 : Int32) (p4 : Int32) (p5 : Int32) {i : Nat} (h_m : f m = some (.inr (11, [.int c_th, .int c_re, .ref v, .ref im, .ref kp, .ref pa, .ref de, .ref ide, .int c_un, .int c_hi, .ref tx, .int c_tn, .int c_fa, .int c_rf, .ref pt, .int c_ps, .int c_pl, .int c_to, .ref so, .ref mo, .ref wh, .ref pf]))) (h_v : f v = some (.inl (cy 0, 6441, .inl g))) (h4 : g 4 = nI i) (hi : i < 4) : hMet l yX9_refuses cX9_refuses 7 (some .int) { frames := 2, cells := 0, slots := 0, locals := 40 } D (hTy cy) f sz [.ref m, .int 1, .int p1, .int p2, .int p3, .int p4, .int p5] (hQi (fun r u => r = (X9_refusesBall_r2 g) ∧ u = f) D f sz) hNo := by
  refine h_enter (by decide) hfl (Nat.le_of_ble_eq_true rfl) ?_
  intro p9 e9 s9 m9 b9 t9 c9 hsz C0 hr hnm G ls hl
  have hx := C0.1.1
  have hb := C0.1.2.1
  have hl : lv_has ls 7 [(0, .ref m), (1, .int 1), (2, .int p1), (3, .int p2), (4, .int p3), (5, .int p4), (6, .int p5)] := hl
  refine lv_iload_n hx hb dX9_refuses_0 rfl (lv_at hl 1 rfl) ?_
  refine lv_tableIn (off := 49) (tgt := 50) hx hb dX9_refuses_1 (by decide) (by decide) rfl (by decide) ?_
  refine lv_aload_n hx hb dX9_refuses_50 rfl (lv_at hl 0 rfl) ?_
  refine g_cI C0 G (g_runV C0 G (rest := []) (k_X9_refusesBall hfl h_m h_v) h_m rfl hY_X9_refusesBall mm_X9_108 mi_X9_refusesBall ml_X9_refusesBall ⟨(Nat.le_of_ble_eq_true rfl), (Nat.le_of_ble_eq_true rfl)⟩ rfl hl.1 rfl (Nat.le_of_ble_eq_true rfl) dX9_refuses_51 ⟨(Nat.le_of_ble_eq_true rfl), (Nat.le_of_ble_eq_true rfl)⟩) (kx_no rfl) (fun r13 u12 H locs hp11 G => ?_)
  obtain ⟨rfl, eu12⟩ := hp11
  rw [eu12] at G
  exact g_iret C0 G hr dX9_refuses_54 (Nat.le_of_ble_eq_true rfl) (Nat.le_of_ble_eq_true rfl) (by exact ⟨rfl, rfl⟩)
def X9_refuses2_x0 (p3 : Int32) : Int32 := if p3 = 1 then 1 else 0
def X9_refuses2_x1 (p5 : Int32) : Int32 := if p5 = 1 then 1 else 0
def X9_refuses2_r2 (g : Nat → Int32) (p1 : Int32) (p2 : Int32) (p3 : Int32) (p4 : Int32) (p5 : Int32) : Int32 := (X9_refusesWicket_r12 g p1 p2 (X9_refuses2_x0 p3) p4 (X9_refuses2_x1 p5))
set_option maxRecDepth 100000 in
theorem k_X9_refuses2 {l : Launch} (hfl : l.stackTraces = false) {D : va_G} {cy : Nat → ClassId} {f : Hf} {sz : Nat} {m : Nat} {v : Nat} {im : Nat} {kp : Nat} {pa : Nat} {de : Nat} {ide : Nat} {tx : Nat} {pt : Nat} {so : Nat} {mo : Nat} {wh : Nat} {pf : Nat} {c_th : Int32} {c_re : Int32} {c_un : Int32} {c_hi : Int32} {c_tn : Int32} {c_fa : Int32} {c_rf : Int32} {c_ps : Int32} {c_pl : Int32} {c_to : Int32} {g : Nat → Int32} (p1 : Int32) (p2 : Int32) (p3 : Int32) (p4 : Int32) (p5 : Int32) {i : Nat} (h_m : f m = some (.inr (11, [.int c_th, .int c_re, .ref v, .ref im, .ref kp, .ref pa, .ref de, .ref ide, .int c_un, .int c_hi, .ref tx, .int c_tn, .int c_fa, .int c_rf, .ref pt, .int c_ps, .int c_pl, .int c_to, .ref so, .ref mo, .ref wh, .ref pf]))) (h_v : f v = some (.inl (cy 0, 6441, .inl g))) (h4 : g 4 = nI i) (hi : i < 4) : hMet l yX9_refuses cX9_refuses 7 (some .int) { frames := 3, cells := 0, slots := 0, locals := 67 } D (hTy cy) f sz [.ref m, .int 2, .int p1, .int p2, .int p3, .int p4, .int p5] (hQi (fun r u => r = (X9_refuses2_r2 g p1 p2 p3 p4 p5) ∧ u = f) D f sz) hNo := by
  refine h_enter (by decide) hfl (Nat.le_of_ble_eq_true rfl) ?_
  intro p9 e9 s9 m9 b9 t9 c9 hsz C0 hr hnm G ls hl
  have hx := C0.1.1
  have hb := C0.1.2.1
  have hl : lv_has ls 7 [(0, .ref m), (1, .int 2), (2, .int p1), (3, .int p2), (4, .int p3), (5, .int p4), (6, .int p5)] := hl
  refine lv_iload_n hx hb dX9_refuses_0 rfl (lv_at hl 1 rfl) ?_
  refine lv_tableIn (off := 54) (tgt := 55) hx hb dX9_refuses_1 (by decide) (by decide) rfl (by decide) ?_
  refine lv_aload_n hx hb dX9_refuses_55 rfl (lv_at hl 0 rfl) ?_
  refine lv_iload_n hx hb dX9_refuses_56 rfl (lv_at hl 2 rfl) ?_
  refine lv_iload_n hx hb dX9_refuses_57 rfl (lv_at hl 3 rfl) ?_
  refine lv_iload hx hb dX9_refuses_58 (lv_at hl 4 rfl) ?_
  refine lv_iconst (v := 1) hx hb dX9_refuses_60 (by decide) ?_
  have J13 : ∀ (y12 : Int32) (_ : y12 = (X9_refuses2_x0 p3)) (H : Heap) (locs : List Loc) (ls : Array Slot), hG D (hA f sz) f s9 H locs → lv_has ls 7 [(0, .ref m), (1, .int 2), (2, .int p1), (3, .int p2), (4, .int p3), (5, .int p4), (6, .int p5)] → W p9 l e9 ({ frames := 3, cells := 0, slots := 0, locals := 67 } : Room) s9 m9 ([.ref m, .int 2, .int p1, .int p2, .int p3, .int p4, .int p5] : List Value).toArray b9 t9 c9 H locs 0 0 (vx_MQ b9 (hQi (fun r u => r = (X9_refuses2_r2 g p1 p2 p3 p4 p5) ∧ u = f) D f sz) (hPx hNo D f sz) ([.ref m, .int 2, .int p1, .int p2, .int p3, .int p4, .int p5] : List Value).toArray s9 0 0 (hA f sz)) (F0 m9 69 ls [.int y12, .int p2, .int p1, .ref m]) := by
    intro y12 ey12 H locs ls G hl
    subst ey12
    refine lv_iload hx hb dX9_refuses_69 (lv_at hl 5 rfl) ?_
    refine lv_iload hx hb dX9_refuses_71 (lv_at hl 6 rfl) ?_
    refine lv_iconst (v := 1) hx hb dX9_refuses_73 (by decide) ?_
    have J17 : ∀ (y16 : Int32) (_ : y16 = (X9_refuses2_x1 p5)) (H : Heap) (locs : List Loc) (ls : Array Slot), hG D (hA f sz) f s9 H locs → lv_has ls 7 [(0, .ref m), (1, .int 2), (2, .int p1), (3, .int p2), (4, .int p3), (5, .int p4), (6, .int p5)] → W p9 l e9 ({ frames := 3, cells := 0, slots := 0, locals := 67 } : Room) s9 m9 ([.ref m, .int 2, .int p1, .int p2, .int p3, .int p4, .int p5] : List Value).toArray b9 t9 c9 H locs 0 0 (vx_MQ b9 (hQi (fun r u => r = (X9_refuses2_r2 g p1 p2 p3 p4 p5) ∧ u = f) D f sz) (hPx hNo D f sz) ([.ref m, .int 2, .int p1, .int p2, .int p3, .int p4, .int p5] : List Value).toArray s9 0 0 (hA f sz)) (F0 m9 82 ls [.int y16, .int p4, .int (X9_refuses2_x0 p3), .int p2, .int p1, .ref m]) := by
      intro y16 ey16 H locs ls G hl
      subst ey16
      refine g_cI C0 G (g_runV C0 G (rest := []) (k_X9_refusesWicket hfl p1 p2 (X9_refuses2_x0 p3) p4 (X9_refuses2_x1 p5) h_m h_v (by repeat (first | exact Or.inl rfl | exact Or.inr rfl | assumption | split | unfold X9_refuses2_x0 | unfold X9_refuses2_x1 | unfold X9_refuses2_r2)) (by repeat (first | exact Or.inl rfl | exact Or.inr rfl | assumption | split | unfold X9_refuses2_x0 | unfold X9_refuses2_x1 | unfold X9_refuses2_r2))) h_m rfl hY_X9_refusesWicket mm_X9_114 mi_X9_refusesWicket ml_X9_refusesWicket ⟨(Nat.le_of_ble_eq_true rfl), (Nat.le_of_ble_eq_true rfl)⟩ rfl hl.1 rfl (Nat.le_of_ble_eq_true rfl) dX9_refuses_82 ⟨(Nat.le_of_ble_eq_true rfl), (Nat.le_of_ble_eq_true rfl)⟩) (kx_no rfl) (fun r21 u20 H locs hp19 G => ?_)
      obtain ⟨rfl, eu20⟩ := hp19
      rw [eu20] at G
      exact g_iret C0 G hr dX9_refuses_85 (Nat.le_of_ble_eq_true rfl) (Nat.le_of_ble_eq_true rfl) (by exact ⟨(by rw [X9_refuses2_r2]), rfl⟩)
    refine lv_icmp_ne (tgt := 81) hx hb dX9_refuses_74 (by decide) (fun c15 => ?_) (fun c15 => ?_)
    · refine lv_iconst (v := 0) hx hb dX9_refuses_81 (by decide) ?_
      exact J17 0 (by rw [X9_refuses2_x1, if_neg c15]) _ _ _ G (lv_sub hl [0, 1, 2, 3, 4, 5, 6] rfl)
    · refine lv_iconst (v := 1) hx hb dX9_refuses_77 (by decide) ?_
      refine lv_goto (tgt := 82) hx hb dX9_refuses_78 (by decide) ?_
      exact J17 1 (by rw [X9_refuses2_x1, if_pos c15]) _ _ _ G (lv_sub hl [0, 1, 2, 3, 4, 5, 6] rfl)
  refine lv_icmp_ne (tgt := 68) hx hb dX9_refuses_61 (by decide) (fun c11 => ?_) (fun c11 => ?_)
  · refine lv_iconst (v := 0) hx hb dX9_refuses_68 (by decide) ?_
    exact J13 0 (by rw [X9_refuses2_x0, if_neg c11]) _ _ _ G (lv_sub hl [0, 1, 2, 3, 4, 5, 6] rfl)
  · refine lv_iconst (v := 1) hx hb dX9_refuses_64 (by decide) ?_
    refine lv_goto (tgt := 69) hx hb dX9_refuses_65 (by decide) ?_
    exact J13 1 (by rw [X9_refuses2_x0, if_pos c11]) _ _ _ G (lv_sub hl [0, 1, 2, 3, 4, 5, 6] rfl)
set_option maxRecDepth 100000 in
theorem k_X9_refuses3 {l : Launch} (hfl : l.stackTraces = false) {D : va_G} {cy : Nat → ClassId} {f : Hf} {sz : Nat} {m : Nat} {v : Nat} {im : Nat} {kp : Nat} {pa : Nat} {de : Nat} {ide : Nat} {tx : Nat} {pt : Nat} {so : Nat} {mo : Nat} {wh : Nat} {pf : Nat} {c_th : Int32} {c_re : Int32} {c_un : Int32} {c_hi : Int32} {c_tn : Int32} {c_fa : Int32} {c_rf : Int32} {c_ps : Int32} {c_pl : Int32} {c_to : Int32} {g : Nat → Int32} (p1 : Int32) (p2 : Int32) (p3 : Int32) (p4 : Int32) (p5 : Int32) {i : Nat} (h_m : f m = some (.inr (11, [.int c_th, .int c_re, .ref v, .ref im, .ref kp, .ref pa, .ref de, .ref ide, .int c_un, .int c_hi, .ref tx, .int c_tn, .int c_fa, .int c_rf, .ref pt, .int c_ps, .int c_pl, .int c_to, .ref so, .ref mo, .ref wh, .ref pf]))) (h_v : f v = some (.inl (cy 0, 6441, .inl g))) (h4 : g 4 = nI i) (hi : i < 4) : hMet l yX9_refuses cX9_refuses 7 (some .int) { frames := 1, cells := 0, slots := 0, locals := 20 } D (hTy cy) f sz [.ref m, .int 3, .int p1, .int p2, .int p3, .int p4, .int p5] (hQi (fun r u => r = (X9_noMatch_x1 g) ∧ u = f) D f sz) hNo := by
  refine h_enter (by decide) hfl (Nat.le_of_ble_eq_true rfl) ?_
  intro p9 e9 s9 m9 b9 t9 c9 hsz C0 hr hnm G ls hl
  have hx := C0.1.1
  have hb := C0.1.2.1
  have hl : lv_has ls 7 [(0, .ref m), (1, .int 3), (2, .int p1), (3, .int p2), (4, .int p3), (5, .int p4), (6, .int p5)] := hl
  refine lv_iload_n hx hb dX9_refuses_0 rfl (lv_at hl 1 rfl) ?_
  refine lv_tableIn (off := 156) (tgt := 157) hx hb dX9_refuses_1 (by decide) (by decide) rfl (by decide) ?_
  refine lv_aload_n hx hb dX9_refuses_157 rfl (lv_at hl 0 rfl) ?_
  refine g_cI C0 G (g_runV C0 G (rest := []) (k_X9_noMatch hfl h_m h_v) h_m rfl hY_X9_noMatch mm_X9_102 mi_X9_noMatch ml_X9_noMatch ⟨(Nat.le_of_ble_eq_true rfl), (Nat.le_of_ble_eq_true rfl)⟩ rfl hl.1 rfl (Nat.le_of_ble_eq_true rfl) dX9_refuses_158 ⟨(Nat.le_of_ble_eq_true rfl), (Nat.le_of_ble_eq_true rfl)⟩) (kx_no rfl) (fun r13 u12 H locs hp11 G => ?_)
  obtain ⟨rfl, eu12⟩ := hp11
  rw [eu12] at G
  exact g_iret C0 G hr dX9_refuses_161 (Nat.le_of_ble_eq_true rfl) (Nat.le_of_ble_eq_true rfl) (by exact ⟨rfl, rfl⟩)
theorem b_k_X9_refuses3 (g : Nat → Int32) : (X9_noMatch_x1 g) = 0 ∨ (X9_noMatch_x1 g) = 1 := by
  repeat (first | exact Or.inl rfl | exact Or.inr rfl | assumption | exact (b_k_X9_noMatch g) | split)
def X9_refuses4_n0 (g : Nat → Int32) (p1 : Nat) (i : Nat) : Nat := if (X9_mayCome_x1 g p1 i) = 0 then 5 else 0
def X9_refuses4_n1 (g : Nat → Int32) (p1 : Nat) (i : Nat) : Nat := if (X9_noMatch_x1 g) = 1 then 1 else (X9_refuses4_n0 g p1 i)
def X9_refuses4_r2 (g : Nat → Int32) (p1 : Nat) (i : Nat) : Int32 := nI (X9_refuses4_n1 g p1 i)
set_option maxRecDepth 100000 in
theorem k_X9_refuses4 {l : Launch} (hfl : l.stackTraces = false) {D : va_G} {cy : Nat → ClassId} {f : Hf} {sz : Nat} {m : Nat} {v : Nat} {im : Nat} {kp : Nat} {pa : Nat} {de : Nat} {ide : Nat} {tx : Nat} {pt : Nat} {so : Nat} {mo : Nat} {wh : Nat} {pf : Nat} {c_th : Int32} {c_re : Int32} {c_un : Int32} {c_hi : Int32} {c_tn : Int32} {c_fa : Int32} {c_rf : Int32} {c_ps : Int32} {c_pl : Int32} {c_to : Int32} {g : Nat → Int32} {p1 : Nat} (p2 : Int32) (p3 : Int32) (p4 : Int32) (p5 : Int32) {i : Nat} (h_m : f m = some (.inr (11, [.int c_th, .int c_re, .ref v, .ref im, .ref kp, .ref pa, .ref de, .ref ide, .int c_un, .int c_hi, .ref tx, .int c_tn, .int c_fa, .int c_rf, .ref pt, .int c_ps, .int c_pl, .int c_to, .ref so, .ref mo, .ref wh, .ref pf]))) (h_v : f v = some (.inl (cy 0, 6441, .inl g))) (h4 : g 4 = nI i) (hi : i < 4) (hp : p1 < 11) : hMet l yX9_refuses cX9_refuses 7 (some .int) { frames := 2, cells := 0, slots := 0, locals := 44 } D (hTy cy) f sz [.ref m, .int 4, .int (nI p1), .int p2, .int p3, .int p4, .int p5] (hQi (fun r u => r = (X9_refuses4_r2 g p1 i) ∧ u = f) D f sz) hNo := by
  refine h_enter (by decide) hfl (Nat.le_of_ble_eq_true rfl) ?_
  intro p9 e9 s9 m9 b9 t9 c9 hsz C0 hr hnm G ls hl
  have hx := C0.1.1
  have hb := C0.1.2.1
  have hl : lv_has ls 7 [(0, .ref m), (1, .int 4), (2, .int (nI p1)), (3, .int p2), (4, .int p3), (5, .int p4), (6, .int p5)] := hl
  refine lv_iload_n hx hb dX9_refuses_0 rfl (lv_at hl 1 rfl) ?_
  refine lv_tableIn (off := 85) (tgt := 86) hx hb dX9_refuses_1 (by decide) (by decide) rfl (by decide) ?_
  refine lv_aload_n hx hb dX9_refuses_86 rfl (lv_at hl 0 rfl) ?_
  refine g_cI C0 G (g_runV C0 G (rest := []) (k_X9_noMatch hfl h_m h_v) h_m rfl hY_X9_noMatch mm_X9_102 mi_X9_noMatch ml_X9_noMatch ⟨(Nat.le_of_ble_eq_true rfl), (Nat.le_of_ble_eq_true rfl)⟩ rfl hl.1 rfl (Nat.le_of_ble_eq_true rfl) dX9_refuses_87 ⟨(Nat.le_of_ble_eq_true rfl), (Nat.le_of_ble_eq_true rfl)⟩) (kx_no rfl) (fun r13 u12 H locs hp11 G => ?_)
  obtain ⟨rfl, eu12⟩ := hp11
  rw [eu12] at G
  refine lv_iconst (v := 1) hx hb dX9_refuses_90 (by decide) ?_
  have J16 : ∀ (y15 : Int32) (_ : y15 = nI (X9_refuses4_n1 g p1 i)) (H : Heap) (locs : List Loc) (ls : Array Slot), hG D (hA f sz) f s9 H locs → lv_has ls 7 [(0, .ref m), (1, .int 4), (2, .int (nI p1)), (3, .int p2), (4, .int p3), (5, .int p4), (6, .int p5)] → W p9 l e9 ({ frames := 2, cells := 0, slots := 0, locals := 44 } : Room) s9 m9 ([.ref m, .int 4, .int (nI p1), .int p2, .int p3, .int p4, .int p5] : List Value).toArray b9 t9 c9 H locs 0 0 (vx_MQ b9 (hQi (fun r u => r = (X9_refuses4_r2 g p1 i) ∧ u = f) D f sz) (hPx hNo D f sz) ([.ref m, .int 4, .int (nI p1), .int p2, .int p3, .int p4, .int p5] : List Value).toArray s9 0 0 (hA f sz)) (F0 m9 111 ls [.int y15]) := by
    intro y15 ey15 H locs ls G hl
    subst ey15
    exact g_iret C0 G hr dX9_refuses_111 (Nat.le_of_ble_eq_true rfl) (Nat.le_of_ble_eq_true rfl) (by exact ⟨(by rw [X9_refuses4_r2]), rfl⟩)
  refine lv_icmp_ne (tgt := 98) hx hb dX9_refuses_91 (by decide) (fun c14 => ?_) (fun c14 => ?_)
  · refine lv_aload_n hx hb dX9_refuses_98 rfl (lv_at hl 0 rfl) ?_
    refine lv_iload_n hx hb dX9_refuses_99 rfl (lv_at hl 2 rfl) ?_
    refine g_cI C0 G (g_runV C0 G (rest := []) (k_X9_mayCome hfl h_m h_v h4 hi hp) h_m rfl hY_X9_mayCome mm_X9_118 mi_X9_mayCome ml_X9_mayCome ⟨(Nat.le_of_ble_eq_true rfl), (Nat.le_of_ble_eq_true rfl)⟩ rfl hl.1 rfl (Nat.le_of_ble_eq_true rfl) dX9_refuses_100 ⟨(Nat.le_of_ble_eq_true rfl), (Nat.le_of_ble_eq_true rfl)⟩) (kx_no rfl) (fun r20 u19 H locs hp18 G => ?_)
    obtain ⟨rfl, eu19⟩ := hp18
    rw [eu19] at G
    have J23 : ∀ (y22 : Int32) (_ : y22 = nI (X9_refuses4_n0 g p1 i)) (H : Heap) (locs : List Loc) (ls : Array Slot), hG D (hA f sz) f s9 H locs → lv_has ls 7 [(0, .ref m), (1, .int 4), (2, .int (nI p1)), (3, .int p2), (4, .int p3), (5, .int p4), (6, .int p5)] → W p9 l e9 ({ frames := 2, cells := 0, slots := 0, locals := 44 } : Room) s9 m9 ([.ref m, .int 4, .int (nI p1), .int p2, .int p3, .int p4, .int p5] : List Value).toArray b9 t9 c9 H locs 0 0 (vx_MQ b9 (hQi (fun r u => r = (X9_refuses4_r2 g p1 i) ∧ u = f) D f sz) (hPx hNo D f sz) ([.ref m, .int 4, .int (nI p1), .int p2, .int p3, .int p4, .int p5] : List Value).toArray s9 0 0 (hA f sz)) (F0 m9 111 ls [.int y22]) := by
      intro y22 ey22 H locs ls G hl
      subst ey22
      have bd25 : (X9_refuses4_n0 g p1 i) ≤ 5 := by unfold X9_refuses4_n0; repeat (first | omega | split)
      exact J16 (nI (X9_refuses4_n0 g p1 i)) (by rw [X9_refuses4_n1, if_neg c14] <;> rfl) _ _ _ G (lv_sub hl [0, 1, 2, 3, 4, 5, 6] rfl)
    refine lv_if_eq (tgt := 110) hx hb dX9_refuses_103 (by decide) (fun c21 => ?_) (fun c21 => ?_)
    · refine lv_iconst (v := 5) hx hb dX9_refuses_110 (by decide) ?_
      exact J23 5 (by rw [X9_refuses4_n0, if_pos c21] <;> rfl) _ _ _ G (lv_sub hl [0, 1, 2, 3, 4, 5, 6] rfl)
    · refine lv_iconst (v := 0) hx hb dX9_refuses_106 (by decide) ?_
      refine lv_goto (tgt := 111) hx hb dX9_refuses_107 (by decide) ?_
      exact J23 0 (by rw [X9_refuses4_n0, if_neg c21] <;> rfl) _ _ _ G (lv_sub hl [0, 1, 2, 3, 4, 5, 6] rfl)
  · refine lv_iconst (v := 1) hx hb dX9_refuses_94 (by decide) ?_
    refine lv_goto (tgt := 111) hx hb dX9_refuses_95 (by decide) ?_
    exact J16 1 (by rw [X9_refuses4_n1, if_pos c14] <;> rfl) _ _ _ G (lv_sub hl [0, 1, 2, 3, 4, 5, 6] rfl)
set_option maxRecDepth 100000 in
theorem k_X9_refuses5 {l : Launch} (hfl : l.stackTraces = false) {D : va_G} {cy : Nat → ClassId} {f : Hf} {sz : Nat} {m : Nat} {v : Nat} {im : Nat} {kp : Nat} {pa : Nat} {de : Nat} {ide : Nat} {tx : Nat} {pt : Nat} {so : Nat} {mo : Nat} {wh : Nat} {pf : Nat} {c_th : Int32} {c_re : Int32} {c_un : Int32} {c_hi : Int32} {c_tn : Int32} {c_fa : Int32} {c_rf : Int32} {c_ps : Int32} {c_pl : Int32} {c_to : Int32} {g : Nat → Int32} (p1 : Int32) (p2 : Int32) (p3 : Int32) (p4 : Int32) (p5 : Int32) {i : Nat} (h_m : f m = some (.inr (11, [.int c_th, .int c_re, .ref v, .ref im, .ref kp, .ref pa, .ref de, .ref ide, .int c_un, .int c_hi, .ref tx, .int c_tn, .int c_fa, .int c_rf, .ref pt, .int c_ps, .int c_pl, .int c_to, .ref so, .ref mo, .ref wh, .ref pf]))) (h_v : f v = some (.inl (cy 0, 6441, .inl g))) (h4 : g 4 = nI i) (hi : i < 4) : hMet l yX9_refuses cX9_refuses 7 (some .int) { frames := 1, cells := 0, slots := 0, locals := 20 } D (hTy cy) f sz [.ref m, .int 5, .int p1, .int p2, .int p3, .int p4, .int p5] (hQi (fun r u => r = (X9_noMatch_x1 g) ∧ u = f) D f sz) hNo := by
  refine h_enter (by decide) hfl (Nat.le_of_ble_eq_true rfl) ?_
  intro p9 e9 s9 m9 b9 t9 c9 hsz C0 hr hnm G ls hl
  have hx := C0.1.1
  have hb := C0.1.2.1
  have hl : lv_has ls 7 [(0, .ref m), (1, .int 5), (2, .int p1), (3, .int p2), (4, .int p3), (5, .int p4), (6, .int p5)] := hl
  refine lv_iload_n hx hb dX9_refuses_0 rfl (lv_at hl 1 rfl) ?_
  refine lv_tableIn (off := 156) (tgt := 157) hx hb dX9_refuses_1 (by decide) (by decide) rfl (by decide) ?_
  refine lv_aload_n hx hb dX9_refuses_157 rfl (lv_at hl 0 rfl) ?_
  refine g_cI C0 G (g_runV C0 G (rest := []) (k_X9_noMatch hfl h_m h_v) h_m rfl hY_X9_noMatch mm_X9_102 mi_X9_noMatch ml_X9_noMatch ⟨(Nat.le_of_ble_eq_true rfl), (Nat.le_of_ble_eq_true rfl)⟩ rfl hl.1 rfl (Nat.le_of_ble_eq_true rfl) dX9_refuses_158 ⟨(Nat.le_of_ble_eq_true rfl), (Nat.le_of_ble_eq_true rfl)⟩) (kx_no rfl) (fun r13 u12 H locs hp11 G => ?_)
  obtain ⟨rfl, eu12⟩ := hp11
  rw [eu12] at G
  exact g_iret C0 G hr dX9_refuses_161 (Nat.le_of_ble_eq_true rfl) (Nat.le_of_ble_eq_true rfl) (by exact ⟨rfl, rfl⟩)
theorem b_k_X9_refuses5 (g : Nat → Int32) : (X9_noMatch_x1 g) = 0 ∨ (X9_noMatch_x1 g) = 1 := by
  repeat (first | exact Or.inl rfl | exact Or.inr rfl | assumption | exact (b_k_X9_noMatch g) | split)
def X9_refuses6_n0 (g : Nat → Int32) (p1 : Int32) (i : Nat) : Nat := if (X9_begun_r0 g i) < ((g 13) - p1) then 0 else 8
def X9_refuses6_n1 (g : Nat → Int32) (p1 : Int32) (i : Nat) : Nat := if (g 1) = 2 then 8 else (X9_refuses6_n0 g p1 i)
def X9_refuses6_n2 (g : Nat → Int32) (p1 : Int32) (i : Nat) : Nat := if (X9_noMatch_x1 g) = 1 then 1 else (X9_refuses6_n1 g p1 i)
def X9_refuses6_r3 (g : Nat → Int32) (p1 : Int32) (i : Nat) : Int32 := nI (X9_refuses6_n2 g p1 i)
set_option maxRecDepth 100000 in
theorem k_X9_refuses6 {l : Launch} (hfl : l.stackTraces = false) {D : va_G} {cy : Nat → ClassId} {f : Hf} {sz : Nat} {m : Nat} {v : Nat} {im : Nat} {kp : Nat} {pa : Nat} {de : Nat} {ide : Nat} {tx : Nat} {pt : Nat} {so : Nat} {mo : Nat} {wh : Nat} {pf : Nat} {c_th : Int32} {c_re : Int32} {c_un : Int32} {c_hi : Int32} {c_tn : Int32} {c_fa : Int32} {c_rf : Int32} {c_ps : Int32} {c_pl : Int32} {c_to : Int32} {g : Nat → Int32} (p1 : Int32) (p2 : Int32) (p3 : Int32) (p4 : Int32) (p5 : Int32) {i : Nat} (h_m : f m = some (.inr (11, [.int c_th, .int c_re, .ref v, .ref im, .ref kp, .ref pa, .ref de, .ref ide, .int c_un, .int c_hi, .ref tx, .int c_tn, .int c_fa, .int c_rf, .ref pt, .int c_ps, .int c_pl, .int c_to, .ref so, .ref mo, .ref wh, .ref pf]))) (h_v : f v = some (.inl (cy 0, 6441, .inl g))) (h4 : g 4 = nI i) (hi : i < 4) : hMet l yX9_refuses cX9_refuses 7 (some .int) { frames := 2, cells := 0, slots := 0, locals := 41 } D (hTy cy) f sz [.ref m, .int 6, .int p1, .int p2, .int p3, .int p4, .int p5] (hQi (fun r u => r = (X9_refuses6_r3 g p1 i) ∧ u = f) D f sz) hNo := by
  refine h_enter (by decide) hfl (Nat.le_of_ble_eq_true rfl) ?_
  intro p9 e9 s9 m9 b9 t9 c9 hsz C0 hr hnm G ls hl
  have hx := C0.1.1
  have hb := C0.1.2.1
  have hl : lv_has ls 7 [(0, .ref m), (1, .int 6), (2, .int p1), (3, .int p2), (4, .int p3), (5, .int p4), (6, .int p5)] := hl
  refine lv_iload_n hx hb dX9_refuses_0 rfl (lv_at hl 1 rfl) ?_
  refine lv_tableIn (off := 111) (tgt := 112) hx hb dX9_refuses_1 (by decide) (by decide) rfl (by decide) ?_
  refine lv_aload_n hx hb dX9_refuses_112 rfl (lv_at hl 0 rfl) ?_
  refine g_cI C0 G (g_runV C0 G (rest := []) (k_X9_noMatch hfl h_m h_v) h_m rfl hY_X9_noMatch mm_X9_102 mi_X9_noMatch ml_X9_noMatch ⟨(Nat.le_of_ble_eq_true rfl), (Nat.le_of_ble_eq_true rfl)⟩ rfl hl.1 rfl (Nat.le_of_ble_eq_true rfl) dX9_refuses_113 ⟨(Nat.le_of_ble_eq_true rfl), (Nat.le_of_ble_eq_true rfl)⟩) (kx_no rfl) (fun r13 u12 H locs hp11 G => ?_)
  obtain ⟨rfl, eu12⟩ := hp11
  rw [eu12] at G
  refine lv_iconst (v := 1) hx hb dX9_refuses_116 (by decide) ?_
  have J16 : ∀ (y15 : Int32) (_ : y15 = nI (X9_refuses6_n2 g p1 i)) (H : Heap) (locs : List Loc) (ls : Array Slot), hG D (hA f sz) f s9 H locs → lv_has ls 7 [(0, .ref m), (1, .int 6), (2, .int p1), (3, .int p2), (4, .int p3), (5, .int p4), (6, .int p5)] → W p9 l e9 ({ frames := 2, cells := 0, slots := 0, locals := 41 } : Room) s9 m9 ([.ref m, .int 6, .int p1, .int p2, .int p3, .int p4, .int p5] : List Value).toArray b9 t9 c9 H locs 0 0 (vx_MQ b9 (hQi (fun r u => r = (X9_refuses6_r3 g p1 i) ∧ u = f) D f sz) (hPx hNo D f sz) ([.ref m, .int 6, .int p1, .int p2, .int p3, .int p4, .int p5] : List Value).toArray s9 0 0 (hA f sz)) (F0 m9 156 ls [.int y15]) := by
    intro y15 ey15 H locs ls G hl
    subst ey15
    exact g_iret C0 G hr dX9_refuses_156 (Nat.le_of_ble_eq_true rfl) (Nat.le_of_ble_eq_true rfl) (by exact ⟨(by rw [X9_refuses6_r3]), rfl⟩)
  refine lv_icmp_ne (tgt := 124) hx hb dX9_refuses_117 (by decide) (fun c14 => ?_) (fun c14 => ?_)
  · refine lv_aload_n hx hb dX9_refuses_124 rfl (lv_at hl 0 rfl) ?_
    refine g_get C0 G h_m rfl hiX9 2 (by decide) mf_X9_9 rfl dX9_refuses_125 ?_
    refine lv_iconst (v := 1) hx hb dX9_refuses_128 (by decide) ?_
    refine g_iald C0 G h_v 0 rfl (by unfold vp_in; decide) dX9_refuses_129 ?_
    refine lv_topv (v := g 1) rfl ?_
    refine lv_iconst (v := 2) hx hb dX9_refuses_130 (by decide) ?_
    have J20 : ∀ (y19 : Int32) (_ : y19 = nI (X9_refuses6_n1 g p1 i)) (H : Heap) (locs : List Loc) (ls : Array Slot), hG D (hA f sz) f s9 H locs → lv_has ls 7 [(0, .ref m), (1, .int 6), (2, .int p1), (3, .int p2), (4, .int p3), (5, .int p4), (6, .int p5)] → W p9 l e9 ({ frames := 2, cells := 0, slots := 0, locals := 41 } : Room) s9 m9 ([.ref m, .int 6, .int p1, .int p2, .int p3, .int p4, .int p5] : List Value).toArray b9 t9 c9 H locs 0 0 (vx_MQ b9 (hQi (fun r u => r = (X9_refuses6_r3 g p1 i) ∧ u = f) D f sz) (hPx hNo D f sz) ([.ref m, .int 6, .int p1, .int p2, .int p3, .int p4, .int p5] : List Value).toArray s9 0 0 (hA f sz)) (F0 m9 156 ls [.int y19]) := by
      intro y19 ey19 H locs ls G hl
      subst ey19
      exact J16 (nI (X9_refuses6_n1 g p1 i)) (by rw [X9_refuses6_n2, if_neg c14] <;> rfl) _ _ _ G (lv_sub hl [0, 1, 2, 3, 4, 5, 6] rfl)
    refine lv_icmp_eq (tgt := 150) hx hb dX9_refuses_131 (by decide) (fun c18 => ?_) (fun c18 => ?_)
    · refine lv_bipush (v := 8) hx hb dX9_refuses_150 (by decide) ?_
      refine lv_goto (tgt := 156) hx hb dX9_refuses_152 (by decide) ?_
      exact J20 8 (by rw [X9_refuses6_n1, if_pos c18] <;> rfl) _ _ _ G (lv_sub hl [0, 1, 2, 3, 4, 5, 6] rfl)
    · refine lv_aload_n hx hb dX9_refuses_134 rfl (lv_at hl 0 rfl) ?_
      refine g_get C0 G h_m rfl hiX9 2 (by decide) mf_X9_9 rfl dX9_refuses_135 ?_
      refine lv_bipush (v := 13) hx hb dX9_refuses_138 (by decide) ?_
      refine g_iald C0 G h_v 0 rfl (by unfold vp_in; decide) dX9_refuses_140 ?_
      refine lv_topv (v := g 13) rfl ?_
      refine lv_iload_n hx hb dX9_refuses_141 rfl (lv_at hl 2 rfl) ?_
      refine lv_isub hx hb dX9_refuses_142 ?_
      refine lv_aload_n hx hb dX9_refuses_143 rfl (lv_at hl 0 rfl) ?_
      refine g_cI C0 G (g_runV C0 G (rest := [.int ((g 13) - p1)]) (k_X9_begun hfl h_m h_v h4 hi) h_m rfl hY_X9_begun mm_X9_122 mi_X9_begun ml_X9_begun ⟨(Nat.le_of_ble_eq_true rfl), (Nat.le_of_ble_eq_true rfl)⟩ rfl hl.1 rfl (Nat.le_of_ble_eq_true rfl) dX9_refuses_144 ⟨(Nat.le_of_ble_eq_true rfl), (Nat.le_of_ble_eq_true rfl)⟩) (kx_no rfl) (fun r24 u23 H locs hp22 G => ?_)
      obtain ⟨rfl, eu23⟩ := hp22
      rw [eu23] at G
      have J27 : ∀ (y26 : Int32) (_ : y26 = nI (X9_refuses6_n0 g p1 i)) (H : Heap) (locs : List Loc) (ls : Array Slot), hG D (hA f sz) f s9 H locs → lv_has ls 7 [(0, .ref m), (1, .int 6), (2, .int p1), (3, .int p2), (4, .int p3), (5, .int p4), (6, .int p5)] → W p9 l e9 ({ frames := 2, cells := 0, slots := 0, locals := 41 } : Room) s9 m9 ([.ref m, .int 6, .int p1, .int p2, .int p3, .int p4, .int p5] : List Value).toArray b9 t9 c9 H locs 0 0 (vx_MQ b9 (hQi (fun r u => r = (X9_refuses6_r3 g p1 i) ∧ u = f) D f sz) (hPx hNo D f sz) ([.ref m, .int 6, .int p1, .int p2, .int p3, .int p4, .int p5] : List Value).toArray s9 0 0 (hA f sz)) (F0 m9 156 ls [.int y26]) := by
        intro y26 ey26 H locs ls G hl
        subst ey26
        have bd29 : (X9_refuses6_n0 g p1 i) ≤ 8 := by unfold X9_refuses6_n0; repeat (first | omega | split)
        exact J20 (nI (X9_refuses6_n0 g p1 i)) (by rw [X9_refuses6_n1, if_neg c18] <;> rfl) _ _ _ G (lv_sub hl [0, 1, 2, 3, 4, 5, 6] rfl)
      refine lv_icmp_gt (tgt := 155) hx hb dX9_refuses_147 (by decide) (fun c25 => ?_) (fun c25 => ?_)
      · refine lv_iconst (v := 0) hx hb dX9_refuses_155 (by decide) ?_
        exact J27 0 (by rw [X9_refuses6_n0, if_pos c25] <;> rfl) _ _ _ G (lv_sub hl [0, 1, 2, 3, 4, 5, 6] rfl)
      · refine lv_bipush (v := 8) hx hb dX9_refuses_150 (by decide) ?_
        refine lv_goto (tgt := 156) hx hb dX9_refuses_152 (by decide) ?_
        exact J27 8 (by rw [X9_refuses6_n0, if_neg c25] <;> rfl) _ _ _ G (lv_sub hl [0, 1, 2, 3, 4, 5, 6] rfl)
  · refine lv_iconst (v := 1) hx hb dX9_refuses_120 (by decide) ?_
    refine lv_goto (tgt := 156) hx hb dX9_refuses_121 (by decide) ?_
    exact J16 1 (by rw [X9_refuses6_n2, if_pos c14] <;> rfl) _ _ _ G (lv_sub hl [0, 1, 2, 3, 4, 5, 6] rfl)
