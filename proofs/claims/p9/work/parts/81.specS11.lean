theorem cp_at {n : Nat} {s d : Nat → Int32} {k : Nat} (h : k < n) : X9_copies_g0 n s d k = s k := by simp only [X9_copies_g0, cpf, if_pos h]
set_option maxRecDepth 100000 in
theorem k_X9_undo0 {l : Launch} (hfl : l.stackTraces = false) {D : va_G} {cy : Nat → ClassId} {f : Hf} {sz : Nat} {m : Nat} {v : Nat} {im : Nat} {kp : Nat} {pa : Nat} {de : Nat} {ide : Nat} {tx : Nat} {pt : Nat} {so : Nat} {mo : Nat} {wh : Nat} {pf : Nat} {c_th : Int32} {c_re : Int32} {c_hi : Int32} {c_tn : Int32} {c_fa : Int32} {c_rf : Int32} {c_ps : Int32} {c_pl : Int32} {c_to : Int32} {g : Nat → Int32} (h_m : f m = some (.inr (11, [.int c_th, .int c_re, .ref v, .ref im, .ref kp, .ref pa, .ref de, .ref ide, .int 0, .int c_hi, .ref tx, .int c_tn, .int c_fa, .int c_rf, .ref pt, .int c_ps, .int c_pl, .int c_to, .ref so, .ref mo, .ref wh, .ref pf]))) (h_v : f v = some (.inl (cy 0, 6441, .inl g)))  : hMet l yX9_undo cX9_undo 2 (some .int) { frames := 0, cells := 0, slots := 0, locals := 0 } D (hTy cy) f sz [.ref m] (hQi (fun r u => r = 0 ∧ u m = some (.inr (11, [.int 1, .int 7, .ref v, .ref im, .ref kp, .ref pa, .ref de, .ref ide, .int 0, .int c_hi, .ref tx, .int c_tn, .int c_fa, .int c_rf, .ref pt, .int c_ps, .int c_pl, .int c_to, .ref so, .ref mo, .ref wh, .ref pf])) ∧ hFrL f u [m]) D f sz) hNo := by
  refine h_enter (by decide) hfl (Nat.le_of_ble_eq_true rfl) ?_
  intro p9 e9 s9 m9 b9 t9 c9 hsz C0 hr hnm G ls hl
  have hx := C0.1.1
  have hb := C0.1.2.1
  have hl : lv_has ls 2 [(0, .ref m)] := hl
  refine lv_aload_n hx hb dX9_undo_0 rfl (lv_at hl 0 rfl) ?_
  refine lv_aload_n hx hb dX9_undo_1 rfl (lv_at hl 0 rfl) ?_
  refine g_get C0 G h_m rfl hiX9 8 (by decide) mf_X9_84 rfl dX9_undo_2 ?_
  refine lv_if_ne (tgt := 12) hx hb dX9_undo_5 (by decide) (fun c11 => absurd (by decide) c11) (fun _ => ?_)
  refine lv_iconst (v := 1) hx hb dX9_undo_8 (by decide) ?_
  refine lv_goto (tgt := 13) hx hb dX9_undo_9 (by decide) ?_
  refine g_put C0 G h_m rfl hiX9 tyX9 tyX9_ok nmX9 0 (by decide) mf_X9_55 rfl rfl rfl rfl (Nat.le_of_ble_eq_true rfl) dX9_undo_13 (fun H locs f12 hf12 G => ?_)
  have k13 : f12 m = some (.inr (11, [.int 1, .int c_re, .ref v, .ref im, .ref kp, .ref pa, .ref de, .ref ide, .int 0, .int c_hi, .ref tx, .int c_tn, .int c_fa, .int c_rf, .ref pt, .int c_ps, .int c_pl, .int c_to, .ref so, .ref mo, .ref wh, .ref pf])) := hus hf12
  refine lv_aload_n hx hb dX9_undo_16 rfl (lv_at hl 0 rfl) ?_
  refine g_get C0 G k13 rfl hiX9 0 (by decide) mf_X9_55 rfl dX9_undo_17 ?_
  refine lv_iconst (v := 1) hx hb dX9_undo_20 (by decide) ?_
  refine lv_icmp_ne (tgt := 32) hx hb dX9_undo_21 (by decide) (fun c14 => absurd (by decide) c14) (fun _ => ?_)
  refine lv_aload_n hx hb dX9_undo_24 rfl (lv_at hl 0 rfl) ?_
  refine lv_bipush (v := 7) hx hb dX9_undo_25 (by decide) ?_
  refine g_put C0 G k13 rfl hiX9 tyX9 tyX9_ok nmX9 1 (by decide) mf_X9_166 rfl rfl rfl rfl (Nat.le_of_ble_eq_true rfl) dX9_undo_27 (fun H locs f15 hf15 G => ?_)
  have k16 : f15 m = some (.inr (11, [.int 1, .int 7, .ref v, .ref im, .ref kp, .ref pa, .ref de, .ref ide, .int 0, .int c_hi, .ref tx, .int c_tn, .int c_fa, .int c_rf, .ref pt, .int c_ps, .int c_pl, .int c_to, .ref so, .ref mo, .ref wh, .ref pf])) := hus hf15
  refine lv_iconst (v := 0) hx hb dX9_undo_30 (by decide) ?_
  exact g_iret C0 G hr dX9_undo_31 (Nat.le_of_ble_eq_true rfl) (Nat.le_of_ble_eq_true rfl) (by exact ⟨rfl, k16, (fun a9 e9 h7 h8 => hup hf15 (fun q => h7 (by rw [q]; simp)) (hup hf12 (fun q => h7 (by rw [q]; simp)) (h8)))⟩)
def X9_undoS_r0 (un : Nat) : Int32 := nI (un - 1)
def X9_undoS_g1 (g : Nat → Int32) (gp : Nat → Int32) (un : Nat) : Nat → Int32 := cpf (fun k => gp ((un - 1) * 6441 + k)) g 6441
set_option maxRecDepth 100000 in
theorem k_X9_undoS {l : Launch} (hfl : l.stackTraces = false) {D : va_G} {cy : Nat → ClassId} {f : Hf} {sz : Nat} {m : Nat} {v : Nat} {im : Nat} {kp : Nat} {pa : Nat} {de : Nat} {ide : Nat} {tx : Nat} {pt : Nat} {so : Nat} {mo : Nat} {wh : Nat} {pf : Nat} {c_th : Int32} {c_re : Int32} {c_hi : Int32} {c_tn : Int32} {c_fa : Int32} {c_rf : Int32} {c_ps : Int32} {c_pl : Int32} {c_to : Int32} {g : Nat → Int32} {gp : Nat → Int32} {un : Nat} (h_m : f m = some (.inr (11, [.int c_th, .int c_re, .ref v, .ref im, .ref kp, .ref pa, .ref de, .ref ide, .int (nI un), .int c_hi, .ref tx, .int c_tn, .int c_fa, .int c_rf, .ref pt, .int c_ps, .int c_pl, .int c_to, .ref so, .ref mo, .ref wh, .ref pf]))) (h_v : f v = some (.inl (cy 0, 6441, .inl g))) (h_pa : f pa = some (.inl (cy 0, 51528, .inl gp))) (hun1 : 1 ≤ un) (hun : un < 9) : hMet l yX9_undo cX9_undo 2 (some .int) { frames := 0, cells := 0, slots := 0, locals := 0 } D (hTy cy) f sz [.ref m] (hQi (fun r u => r = (X9_undoS_r0 un) ∧ u m = some (.inr (11, [.int 0, .int c_re, .ref v, .ref im, .ref kp, .ref pa, .ref de, .ref ide, .int (nI (un - 1)), .int c_hi, .ref tx, .int c_tn, .int c_fa, .int c_rf, .ref pt, .int c_ps, .int c_pl, .int c_to, .ref so, .ref mo, .ref wh, .ref pf])) ∧ u v = some (.inl (cy 0, 6441, .inl (X9_undoS_g1 g gp un))) ∧ hFrL f u [m, v]) D f sz) hNo := by
  refine h_enter (by decide) hfl (Nat.le_of_ble_eq_true rfl) ?_
  intro p9 e9 s9 m9 b9 t9 c9 hsz C0 hr hnm G ls hl
  have hx := C0.1.1
  have hb := C0.1.2.1
  have hl : lv_has ls 2 [(0, .ref m)] := hl
  refine lv_aload_n hx hb dX9_undo_0 rfl (lv_at hl 0 rfl) ?_
  refine lv_aload_n hx hb dX9_undo_1 rfl (lv_at hl 0 rfl) ?_
  refine g_get C0 G h_m rfl hiX9 8 (by decide) mf_X9_84 rfl dX9_undo_2 ?_
  refine lv_if_ne (tgt := 12) hx hb dX9_undo_5 (by decide) (fun _ => ?_) (fun c11 => absurd c11 (fun q => absurd ((nI_eq (a := un) (b := 0) (by omega) (by omega)).mp q) (by omega)))
  refine lv_iconst (v := 0) hx hb dX9_undo_12 (by decide) ?_
  refine g_put C0 G h_m rfl hiX9 tyX9 tyX9_ok nmX9 0 (by decide) mf_X9_55 rfl rfl rfl rfl (Nat.le_of_ble_eq_true rfl) dX9_undo_13 (fun H locs f12 hf12 G => ?_)
  have k13 : f12 m = some (.inr (11, [.int 0, .int c_re, .ref v, .ref im, .ref kp, .ref pa, .ref de, .ref ide, .int (nI un), .int c_hi, .ref tx, .int c_tn, .int c_fa, .int c_rf, .ref pt, .int c_ps, .int c_pl, .int c_to, .ref so, .ref mo, .ref wh, .ref pf])) := hus hf12
  refine lv_aload_n hx hb dX9_undo_16 rfl (lv_at hl 0 rfl) ?_
  refine g_get C0 G k13 rfl hiX9 0 (by decide) mf_X9_55 rfl dX9_undo_17 ?_
  refine lv_iconst (v := 1) hx hb dX9_undo_20 (by decide) ?_
  refine lv_icmp_ne (tgt := 32) hx hb dX9_undo_21 (by decide) (fun _ => ?_) (fun c14 => absurd c14 (by decide))
  refine lv_aload_n hx hb dX9_undo_32 rfl (lv_at hl 0 rfl) ?_
  refine lv_dup hx hb dX9_undo_33 rfl ?_
  refine g_get C0 G k13 rfl hiX9 8 (by decide) mf_X9_84 rfl dX9_undo_34 ?_
  refine lv_iconst (v := 1) hx hb dX9_undo_37 (by decide) ?_
  refine lv_isub hx hb dX9_undo_38 ?_
  refine lv_topv (v := nI (un - 1)) ((nI_sb (by omega))) ?_
  refine g_put C0 G k13 rfl hiX9 tyX9 tyX9_ok nmX9 8 (by decide) mf_X9_84 rfl rfl rfl rfl (Nat.le_of_ble_eq_true rfl) dX9_undo_39 (fun H locs f15 hf15 G => ?_)
  have k16 : f15 m = some (.inr (11, [.int 0, .int c_re, .ref v, .ref im, .ref kp, .ref pa, .ref de, .ref ide, .int (nI (un - 1)), .int c_hi, .ref tx, .int c_tn, .int c_fa, .int c_rf, .ref pt, .int c_ps, .int c_pl, .int c_to, .ref so, .ref mo, .ref wh, .ref pf])) := hus hf15
  refine lv_iconst (v := 0) hx hb dX9_undo_42 (by decide) ?_
  refine lv_istore_n (lv' := [(1, .int 0), (0, .ref m)]) hx hb dX9_undo_43 rfl hl (by decide) rfl (fun ls hl => ?_)
  have k17 : f15 v = some (.inl (cy 0, 6441, .inl g)) := hup hf15 (by first | exact hneD (hup hf12 (hneD h_v h_m rfl) h_v) k13 rfl | exact hne (hup hf12 (hneD h_v h_m rfl) h_v) k13 (by intro q; cases q)) (hup hf12 (hneD h_v h_m rfl) h_v)
  refine W.widen (k := 0) (n := 0) (Nat.le_of_ble_eq_true rfl) (Nat.le_of_ble_eq_true rfl) ?_
  have LOOP44 : ∀ (k : Nat) (jj : Nat) (f1 : Hf) (H : Heap) (locs : List Loc) (ls : Array Slot), (jj ≤ 6441) → (6441 - jj < k) → f1 v = some (.inl (cy 0, 6441, .inl (cpf (fun k => gp ((un - 1) * 6441 + k)) g jj))) → hFrL f15 f1 [v] → hG D (hA f sz) f1 s9 H locs → lv_has ls 2 [(1, .int (nI jj)), (0, .ref m)] → W p9 l e9 ({ frames := 0, cells := 0, slots := 0, locals := 0 } : Room) s9 m9 ([.ref m] : List Value).toArray b9 t9 c9 H locs 0 0 (vx_MQ b9 (hQi (fun r u => r = (X9_undoS_r0 un) ∧ u m = some (.inr (11, [.int 0, .int c_re, .ref v, .ref im, .ref kp, .ref pa, .ref de, .ref ide, .int (nI (un - 1)), .int c_hi, .ref tx, .int c_tn, .int c_fa, .int c_rf, .ref pt, .int c_ps, .int c_pl, .int c_to, .ref so, .ref mo, .ref wh, .ref pf])) ∧ u v = some (.inl (cy 0, 6441, .inl (X9_undoS_g1 g gp un))) ∧ hFrL f u [m, v]) D f sz) (hPx hNo D f sz) ([.ref m] : List Value).toArray s9 0 0 (hA f sz)) (F0 m9 44 ls []) := by
    intro k
    induction k with
    | zero =>
      intro jj f1 H locs ls hi2 hk h_v1 hfr G hl
      exact absurd hk (by omega)
    | succ k ih =>
      intro jj f1 H locs ls hi2 hk h_v1 hfr G hl
      refine lv_iload_n hx hb dX9_undo_44 rfl (lv_at hl 0 rfl) ?_
      refine lv_sipush (v := 6441) hx hb dX9_undo_45 (by decide) ?_
      refine lv_icmp_ge (tgt := 78) hx hb dX9_undo_48 (by decide) (fun c18 => ?_) (fun c18 => ?_)
      · have n19 : 6441 ≤ jj := (nI_leI (a := 6441) (b := jj) (by omega) (by omega)).mp c18
        have hi9 : 6441 = jj := by omega
        subst hi9
        refine lv_aload_n hx hb dX9_undo_78 rfl (lv_at hl 1 rfl) ?_
        have k20 : f1 m = some (.inr (11, [.int 0, .int c_re, .ref v, .ref im, .ref kp, .ref pa, .ref de, .ref ide, .int (nI (un - 1)), .int c_hi, .ref tx, .int c_tn, .int c_fa, .int c_rf, .ref pt, .int c_ps, .int c_pl, .int c_to, .ref so, .ref mo, .ref wh, .ref pf])) := hfr _ _ (nm_c (hneD k16 k17 rfl) nm_0) k16
        refine g_get C0 G k20 rfl hiX9 8 (by decide) mf_X9_84 rfl dX9_undo_79 ?_
        exact g_iret C0 G hr dX9_undo_82 (Nat.le_of_ble_eq_true rfl) (Nat.le_of_ble_eq_true rfl) (by exact ⟨(by rw [X9_undoS_r0]), k20, (by rw [(by rw [X9_undoS_g1] : (X9_undoS_g1 g gp un) = (cpf (fun k => gp ((un - 1) * 6441 + k)) g 6441))]; exact h_v1), (fun a9 e9 h7 h8 => hfr _ _ (fun q => h7 (by simp only [List.mem_cons, List.not_mem_nil, or_false] at q ⊢; first | exact q | (rcases q with q <;> simp [q]) | omega)) (hup hf15 (fun q => h7 (by rw [q]; simp)) (hup hf12 (fun q => h7 (by rw [q]; simp)) (h8))))⟩)
      · have n21 : ¬ 6441 ≤ jj := fun q => c18 ((nI_leI (a := 6441) (b := jj) (by omega) (by omega)).mpr q)
        refine lv_aload_n hx hb dX9_undo_51 rfl (lv_at hl 1 rfl) ?_
        have k22 : f1 m = some (.inr (11, [.int 0, .int c_re, .ref v, .ref im, .ref kp, .ref pa, .ref de, .ref ide, .int (nI (un - 1)), .int c_hi, .ref tx, .int c_tn, .int c_fa, .int c_rf, .ref pt, .int c_ps, .int c_pl, .int c_to, .ref so, .ref mo, .ref wh, .ref pf])) := hfr _ _ (nm_c (hneD k16 k17 rfl) nm_0) k16
        refine g_get C0 G k22 rfl hiX9 2 (by decide) mf_X9_9 rfl dX9_undo_52 ?_
        refine lv_iload_n hx hb dX9_undo_55 rfl (lv_at hl 0 rfl) ?_
        refine lv_aload_n hx hb dX9_undo_56 rfl (lv_at hl 1 rfl) ?_
        refine g_get C0 G k22 rfl hiX9 5 (by decide) mf_X9_20 rfl dX9_undo_57 ?_
        refine lv_aload_n hx hb dX9_undo_60 rfl (lv_at hl 1 rfl) ?_
        refine g_get C0 G k22 rfl hiX9 8 (by decide) mf_X9_84 rfl dX9_undo_61 ?_
        refine lv_sipush (v := 6441) hx hb dX9_undo_64 (by decide) ?_
        refine lv_imul hx hb dX9_undo_67 ?_
        refine lv_topv (v := nI ((un - 1) * 6441)) ((pk_mul _ _)) ?_
        refine lv_iload_n hx hb dX9_undo_68 rfl (lv_at hl 0 rfl) ?_
        refine lv_iadd hx hb dX9_undo_69 ?_
        refine lv_topv (v := nI ((un - 1) * 6441 + jj)) ((nI_add _ _)) ?_
        have k23 : f1 pa = some (.inl (cy 0, 51528, .inl gp)) := hfr _ _ (nm_c (by first | exact hneD (hup hf15 (by first | exact hneD (hup hf12 (hneD h_pa h_m rfl) h_pa) k13 rfl | exact hne (hup hf12 (hneD h_pa h_m rfl) h_pa) k13 (by intro q; cases q)) (hup hf12 (hneD h_pa h_m rfl) h_pa)) k17 rfl | exact hne (hup hf15 (by first | exact hneD (hup hf12 (hneD h_pa h_m rfl) h_pa) k13 rfl | exact hne (hup hf12 (hneD h_pa h_m rfl) h_pa) k13 (by intro q; cases q)) (hup hf12 (hneD h_pa h_m rfl) h_pa)) k17 (by intro q; cases q)) nm_0) (hup hf15 (by first | exact hneD (hup hf12 (hneD h_pa h_m rfl) h_pa) k13 rfl | exact hne (hup hf12 (hneD h_pa h_m rfl) h_pa) k13 (by intro q; cases q)) (hup hf12 (hneD h_pa h_m rfl) h_pa))
        refine g_iald C0 G k23 0 rfl (vp_in_nI (by omega) (by omega)) dX9_undo_70 ?_
        refine lv_topv (v := gp ((un - 1) * 6441 + jj)) (congrArg gp (nI_c (by omega))) ?_
        refine g_iast C0 G h_v1 0 rfl (vp_in_nI (by omega) (by omega)) dX9_undo_71 (fun H locs f24 hf24 G => ?_)
        have k25 : f24 v = some (.inl (cy 0, 6441, .inl (upd (cpf (fun k => gp ((un - 1) * 6441 + k)) g jj) (nI jj).toNatClampNeg (gp ((un - 1) * 6441 + jj))))) := hus hf24
        refine lv_iinc (v := nI (jj + 1)) (lv' := [(1, .int (nI (jj + 1))), (0, .ref m)]) hx hb dX9_undo_72 hl (k := 0) rfl (by exact (nI_add _ _)) (by decide) rfl (fun ls hl => ?_)
        refine lv_goto (tgt := 44) hx hb dX9_undo_75 (by decide) ?_
        exact ih (jj + 1) f24 _ _ _ (by omega) (by omega) (by have h9 := k25; rw [nI_c (by omega), cpf_s (fun k => gp ((un - 1) * 6441 + k))] at h9; exact h9) (fun a9 e9 h7 h8 => hup hf24 (fun q => h7 (by rw [q]; simp)) (hfr _ _ (fun q => h7 (by simp only [List.mem_cons, List.not_mem_nil, or_false] at q ⊢; first | exact q | (rcases q with q <;> simp [q]) | omega)) (h8))) G (lv_sub hl [0, 1] rfl)
  exact LOOP44 (6441 + 1) 0 f15 _ _ _ (by omega) (by omega)  (by rw [cpf_0]; exact k17) (fun a9 e9 h7 h8 => h8) G (lv_sub hl [0, 1] rfl)
def X9_snapshot_r0 (g : Nat → Int32) : Int32 := if (X9_hasMatch_r0 g) = 0 then 0 else (g 24)
def X9_snapshot_x1 (c_hi : Int32) (g : Nat → Int32) : Int32 := if (X9_hasMatch_r0 g) = 0 then c_hi else 1
def X9_snapshot_g2 (g : Nat → Int32) (gi : Nat → Int32) : Nat → Int32 := if (X9_hasMatch_r0 g) = 0 then gi else (X9_copies_g0 6441 g gi)
def X9_snapshot_g3 (g : Nat → Int32) (gd : Nat → Int32) (gj : Nat → Int32) (d : Nat) : Nat → Int32 := if (X9_hasMatch_r0 g) = 0 then gj else (X9_copies_g0 (6 * d) gd gj)
set_option maxRecDepth 100000 in
theorem k_X9_snapshot {l : Launch} (hfl : l.stackTraces = false) {D : va_G} {cy : Nat → ClassId} {f : Hf} {sz : Nat} {m : Nat} {v : Nat} {im : Nat} {kp : Nat} {pa : Nat} {de : Nat} {ide : Nat} {tx : Nat} {pt : Nat} {so : Nat} {mo : Nat} {wh : Nat} {pf : Nat} {c_th : Int32} {c_re : Int32} {c_un : Int32} {c_hi : Int32} {c_tn : Int32} {c_fa : Int32} {c_rf : Int32} {c_ps : Int32} {c_pl : Int32} {c_to : Int32} {g : Nat → Int32} {gi : Nat → Int32} {gd : Nat → Int32} {gj : Nat → Int32} {d : Nat} (h_m : f m = some (.inr (11, [.int c_th, .int c_re, .ref v, .ref im, .ref kp, .ref pa, .ref de, .ref ide, .int c_un, .int c_hi, .ref tx, .int c_tn, .int c_fa, .int c_rf, .ref pt, .int c_ps, .int c_pl, .int c_to, .ref so, .ref mo, .ref wh, .ref pf]))) (h_v : f v = some (.inl (cy 0, 6441, .inl g))) (h_im : f im = some (.inl (cy 0, 6441, .inl gi))) (h_de : f de = some (.inl (cy 0, 24000, .inl gd))) (h_ide : f ide = some (.inl (cy 0, 24000, .inl gj))) (h23 : g 23 = nI d) (hd : d < 4000) (hvi : v ≠ im) (hvk : v ≠ kp) (hdi : de ≠ ide) : hMet l yX9_snapshot cX9_snapshot 1 (some .int) { frames := 1, cells := 0, slots := 0, locals := 23 } D (hTy cy) f sz [.ref m] (hQi (fun r u => r = (X9_snapshot_r0 g) ∧ u m = some (.inr (11, [.int (X9_hasMatch_x1 0 g 1), .int (X9_hasMatch_x2 c_re g), .ref v, .ref im, .ref kp, .ref pa, .ref de, .ref ide, .int c_un, .int (X9_snapshot_x1 c_hi g), .ref tx, .int c_tn, .int c_fa, .int c_rf, .ref pt, .int c_ps, .int c_pl, .int c_to, .ref so, .ref mo, .ref wh, .ref pf])) ∧ u im = some (.inl (cy 0, 6441, .inl (X9_snapshot_g2 g gi))) ∧ u ide = some (.inl (cy 0, 24000, .inl (X9_snapshot_g3 g gd gj d))) ∧ hFrL f u [m, im, ide]) D f sz) hNo := by
  refine h_enter (by decide) hfl (Nat.le_of_ble_eq_true rfl) ?_
  intro p9 e9 s9 m9 b9 t9 c9 hsz C0 hr hnm G ls hl
  have hx := C0.1.1
  have hb := C0.1.2.1
  have hl : lv_has ls 1 [(0, .ref m)] := hl
  refine lv_aload_n hx hb dX9_snapshot_0 rfl (lv_at hl 0 rfl) ?_
  refine lv_iconst (v := 0) hx hb dX9_snapshot_1 (by decide) ?_
  refine g_put C0 G h_m rfl hiX9 tyX9 tyX9_ok nmX9 0 (by decide) mf_X9_55 rfl rfl rfl rfl (Nat.le_of_ble_eq_true rfl) dX9_snapshot_2 (fun H locs f11 hf11 G => ?_)
  have k12 : f11 m = some (.inr (11, [.int 0, .int c_re, .ref v, .ref im, .ref kp, .ref pa, .ref de, .ref ide, .int c_un, .int c_hi, .ref tx, .int c_tn, .int c_fa, .int c_rf, .ref pt, .int c_ps, .int c_pl, .int c_to, .ref so, .ref mo, .ref wh, .ref pf])) := hus hf11
  refine lv_aload_n hx hb dX9_snapshot_5 rfl (lv_at hl 0 rfl) ?_
  refine lv_iconst (v := 1) hx hb dX9_snapshot_6 (by decide) ?_
  have k13 : f11 v = some (.inl (cy 0, 6441, .inl g)) := hup hf11 (hneD h_v h_m rfl) h_v
  refine g_cI C0 G (g_runV C0 G (rest := []) (k_X9_hasMatch hfl 1 k12 k13) k12 rfl hY_X9_hasMatch mm_X9_221 mi_X9_hasMatch ml_X9_hasMatch ⟨(Nat.le_of_ble_eq_true rfl), (Nat.le_of_ble_eq_true rfl)⟩ rfl hl.1 rfl (Nat.le_of_ble_eq_true rfl) dX9_snapshot_7 ⟨(Nat.le_of_ble_eq_true rfl), (Nat.le_of_ble_eq_true rfl)⟩) (kx_no rfl) (fun r16 u15 H locs hp14 G => ?_)
  obtain ⟨zr, k17, fr18⟩ := hp14
  replace zr := Eq.symm zr
  subst zr
  refine lv_if_ne (tgt := 15) hx hb dX9_snapshot_10 (by decide) (fun c19 => ?_) (fun c19 => ?_)
  · refine lv_aload_n hx hb dX9_snapshot_15 rfl (lv_at hl 0 rfl) ?_
    refine g_get C0 G k17 rfl hiX9 2 (by decide) mf_X9_9 rfl dX9_snapshot_16 ?_
    refine lv_aload_n hx hb dX9_snapshot_19 rfl (lv_at hl 0 rfl) ?_
    refine g_get C0 G k17 rfl hiX9 3 (by decide) mf_X9_13 rfl dX9_snapshot_20 ?_
    refine lv_sipush (v := 6441) hx hb dX9_snapshot_23 (by decide) ?_
    have k20 : u15 v = some (.inl (cy 0, 6441, .inl g)) := fr18 _ _ (nm_c (hneD k13 k12 rfl) nm_0) k13
    have k21 : u15 im = some (.inl (cy 0, 6441, .inl gi)) := fr18 _ _ (nm_c (by first | exact hneD (hup hf11 (hneD h_im h_m rfl) h_im) k12 rfl | exact hne (hup hf11 (hneD h_im h_m rfl) h_im) k12 (by intro q; cases q)) nm_0) (hup hf11 (hneD h_im h_m rfl) h_im)
    refine g_cV C0 G (g_runS C0 G (rest := []) (k_X9_copies hfl (na := 6441) (nb := 6441) (n := 6441) (ga := g) (gb := gi) k20 k21 hvi (by omega) (by omega) (by omega) (by omega)) hY_X9_copies mm_X9_214 ms_X9_copies ⟨(Nat.le_of_ble_eq_true rfl), (Nat.le_of_ble_eq_true rfl)⟩ rfl hl.1 rfl (Nat.le_of_ble_eq_true rfl) dX9_snapshot_26 ⟨(Nat.le_of_ble_eq_true rfl), (Nat.le_of_ble_eq_true rfl)⟩) (kx_no rfl) (fun u23 H locs hp22 G => ?_)
    obtain ⟨k24, fr25⟩ := hp22
    refine lv_aload_n hx hb dX9_snapshot_29 rfl (lv_at hl 0 rfl) ?_
    have k26 : u23 m = some (.inr (11, [.int (X9_hasMatch_x1 0 g 1), .int (X9_hasMatch_x2 c_re g), .ref v, .ref im, .ref kp, .ref pa, .ref de, .ref ide, .int c_un, .int c_hi, .ref tx, .int c_tn, .int c_fa, .int c_rf, .ref pt, .int c_ps, .int c_pl, .int c_to, .ref so, .ref mo, .ref wh, .ref pf])) := fr25 _ _ (nm_c (by first | exact hneD k17 k21 rfl | exact hne k17 k21 (by intro q; cases q)) nm_0) k17
    refine g_get C0 G k26 rfl hiX9 6 (by decide) mf_X9_23 rfl dX9_snapshot_30 ?_
    refine lv_aload_n hx hb dX9_snapshot_33 rfl (lv_at hl 0 rfl) ?_
    refine g_get C0 G k26 rfl hiX9 7 (by decide) mf_X9_26 rfl dX9_snapshot_34 ?_
    refine lv_bipush (v := 6) hx hb dX9_snapshot_37 (by decide) ?_
    refine lv_aload_n hx hb dX9_snapshot_39 rfl (lv_at hl 0 rfl) ?_
    refine g_get C0 G k26 rfl hiX9 2 (by decide) mf_X9_9 rfl dX9_snapshot_40 ?_
    refine lv_bipush (v := 23) hx hb dX9_snapshot_43 (by decide) ?_
    have k27 : u23 v = some (.inl (cy 0, 6441, .inl g)) := fr25 _ _ (nm_c hvi nm_0) k20
    refine g_iald C0 G k27 0 rfl (by unfold vp_in; decide) dX9_snapshot_45 ?_
    refine lv_topv (v := g 23) rfl ?_
    refine lv_topv (v := nI d) (h23) ?_
    refine lv_imul hx hb dX9_snapshot_46 ?_
    refine lv_topv (v := nI (6 * d)) ((pk_mul _ _)) ?_
    have k28 : u23 de = some (.inl (cy 0, 24000, .inl gd)) := fr25 _ _ (nm_c (by first | exact hneD (fr18 _ _ (nm_c (by first | exact hneD (hup hf11 (hneD h_de h_m rfl) h_de) k12 rfl | exact hne (hup hf11 (hneD h_de h_m rfl) h_de) k12 (by intro q; cases q)) nm_0) (hup hf11 (hneD h_de h_m rfl) h_de)) k21 rfl | exact hne (fr18 _ _ (nm_c (by first | exact hneD (hup hf11 (hneD h_de h_m rfl) h_de) k12 rfl | exact hne (hup hf11 (hneD h_de h_m rfl) h_de) k12 (by intro q; cases q)) nm_0) (hup hf11 (hneD h_de h_m rfl) h_de)) k21 (by intro q; cases q)) nm_0) (fr18 _ _ (nm_c (by first | exact hneD (hup hf11 (hneD h_de h_m rfl) h_de) k12 rfl | exact hne (hup hf11 (hneD h_de h_m rfl) h_de) k12 (by intro q; cases q)) nm_0) (hup hf11 (hneD h_de h_m rfl) h_de))
    have k29 : u23 ide = some (.inl (cy 0, 24000, .inl gj)) := fr25 _ _ (nm_c (by first | exact hneD (fr18 _ _ (nm_c (by first | exact hneD (hup hf11 (hneD h_ide h_m rfl) h_ide) k12 rfl | exact hne (hup hf11 (hneD h_ide h_m rfl) h_ide) k12 (by intro q; cases q)) nm_0) (hup hf11 (hneD h_ide h_m rfl) h_ide)) k21 rfl | exact hne (fr18 _ _ (nm_c (by first | exact hneD (hup hf11 (hneD h_ide h_m rfl) h_ide) k12 rfl | exact hne (hup hf11 (hneD h_ide h_m rfl) h_ide) k12 (by intro q; cases q)) nm_0) (hup hf11 (hneD h_ide h_m rfl) h_ide)) k21 (by intro q; cases q)) nm_0) (fr18 _ _ (nm_c (by first | exact hneD (hup hf11 (hneD h_ide h_m rfl) h_ide) k12 rfl | exact hne (hup hf11 (hneD h_ide h_m rfl) h_ide) k12 (by intro q; cases q)) nm_0) (hup hf11 (hneD h_ide h_m rfl) h_ide))
    refine g_cV C0 G (g_runS C0 G (rest := []) (k_X9_copies hfl (na := 24000) (nb := 24000) (n := (6 * d)) (ga := gd) (gb := gj) k28 k29 hdi (by omega) (by omega) (by omega) (by omega)) hY_X9_copies mm_X9_214 ms_X9_copies ⟨(Nat.le_of_ble_eq_true rfl), (Nat.le_of_ble_eq_true rfl)⟩ rfl hl.1 rfl (Nat.le_of_ble_eq_true rfl) dX9_snapshot_47 ⟨(Nat.le_of_ble_eq_true rfl), (Nat.le_of_ble_eq_true rfl)⟩) (kx_no rfl) (fun u31 H locs hp30 G => ?_)
    obtain ⟨k32, fr33⟩ := hp30
    refine lv_aload_n hx hb dX9_snapshot_50 rfl (lv_at hl 0 rfl) ?_
    refine lv_iconst (v := 1) hx hb dX9_snapshot_51 (by decide) ?_
    have k34 : u31 m = some (.inr (11, [.int (X9_hasMatch_x1 0 g 1), .int (X9_hasMatch_x2 c_re g), .ref v, .ref im, .ref kp, .ref pa, .ref de, .ref ide, .int c_un, .int c_hi, .ref tx, .int c_tn, .int c_fa, .int c_rf, .ref pt, .int c_ps, .int c_pl, .int c_to, .ref so, .ref mo, .ref wh, .ref pf])) := fr33 _ _ (nm_c (hneD k26 k29 rfl) nm_0) k26
    refine g_put C0 G k34 rfl hiX9 tyX9 tyX9_ok nmX9 9 (by decide) mf_X9_240 rfl rfl rfl rfl (Nat.le_of_ble_eq_true rfl) dX9_snapshot_52 (fun H locs f35 hf35 G => ?_)
    have k36 : f35 m = some (.inr (11, [.int (X9_hasMatch_x1 0 g 1), .int (X9_hasMatch_x2 c_re g), .ref v, .ref im, .ref kp, .ref pa, .ref de, .ref ide, .int c_un, .int 1, .ref tx, .int c_tn, .int c_fa, .int c_rf, .ref pt, .int c_ps, .int c_pl, .int c_to, .ref so, .ref mo, .ref wh, .ref pf])) := hus hf35
    refine lv_aload_n hx hb dX9_snapshot_55 rfl (lv_at hl 0 rfl) ?_
    refine g_get C0 G k36 rfl hiX9 2 (by decide) mf_X9_9 rfl dX9_snapshot_56 ?_
    refine lv_bipush (v := 24) hx hb dX9_snapshot_59 (by decide) ?_
    have k37 : f35 v = some (.inl (cy 0, 6441, .inl g)) := hup hf35 (hneD (fr33 _ _ (nm_c (hneD k27 k29 rfl) nm_0) k27) k34 rfl) (fr33 _ _ (nm_c (hneD k27 k29 rfl) nm_0) k27)
    refine g_iald C0 G k37 0 rfl (by unfold vp_in; decide) dX9_snapshot_61 ?_
    refine lv_topv (v := g 24) rfl ?_
    have k38 : f35 im = some (.inl (cy 0, 6441, .inl (X9_copies_g0 6441 g gi))) := hup hf35 (by first | exact hneD (fr33 _ _ (nm_c (by first | exact hneD k24 k29 rfl | exact hne k24 k29 (by intro q; cases q)) nm_0) k24) k34 rfl | exact hne (fr33 _ _ (nm_c (by first | exact hneD k24 k29 rfl | exact hne k24 k29 (by intro q; cases q)) nm_0) k24) k34 (by intro q; cases q)) (fr33 _ _ (nm_c (by first | exact hneD k24 k29 rfl | exact hne k24 k29 (by intro q; cases q)) nm_0) k24)
    have k39 : f35 ide = some (.inl (cy 0, 24000, .inl (X9_copies_g0 (6 * d) gd gj))) := hup hf35 (by first | exact hneD k32 k34 rfl | exact hne k32 k34 (by intro q; cases q)) k32
    exact g_iret C0 G hr dX9_snapshot_62 (Nat.le_of_ble_eq_true rfl) (Nat.le_of_ble_eq_true rfl) (by exact ⟨(by rw [X9_snapshot_r0, if_neg c19]), (by rw [(by rw [X9_snapshot_x1, if_neg c19] : (X9_snapshot_x1 c_hi g) = 1)]; exact k36), (by rw [(by rw [X9_snapshot_g2, if_neg c19] : (X9_snapshot_g2 g gi) = (X9_copies_g0 6441 g gi))]; exact k38), (by rw [(by rw [X9_snapshot_g3, if_neg c19] : (X9_snapshot_g3 g gd gj d) = (X9_copies_g0 (6 * d) gd gj))]; exact k39), (fun a9 e9 h7 h8 => hup hf35 (fun q => h7 (by rw [q]; simp)) (fr33 _ _ (fun q => h7 (by simp only [List.mem_cons, List.not_mem_nil, or_false] at q ⊢; first | exact q | (rcases q with q <;> simp [q]) | omega)) (fr25 _ _ (fun q => h7 (by simp only [List.mem_cons, List.not_mem_nil, or_false] at q ⊢; first | exact q | (rcases q with q <;> simp [q]) | omega)) (fr18 _ _ (fun q => h7 (by simp only [List.mem_cons, List.not_mem_nil, or_false] at q ⊢; first | exact q | (rcases q with q <;> simp [q]) | omega)) (hup hf11 (fun q => h7 (by rw [q]; simp)) (h8))))))⟩)
  · refine lv_iconst (v := 0) hx hb dX9_snapshot_13 (by decide) ?_
    have k40 : u15 im = some (.inl (cy 0, 6441, .inl gi)) := fr18 _ _ (nm_c (by first | exact hneD (hup hf11 (hneD h_im h_m rfl) h_im) k12 rfl | exact hne (hup hf11 (hneD h_im h_m rfl) h_im) k12 (by intro q; cases q)) nm_0) (hup hf11 (hneD h_im h_m rfl) h_im)
    have k41 : u15 ide = some (.inl (cy 0, 24000, .inl gj)) := fr18 _ _ (nm_c (by first | exact hneD (hup hf11 (hneD h_ide h_m rfl) h_ide) k12 rfl | exact hne (hup hf11 (hneD h_ide h_m rfl) h_ide) k12 (by intro q; cases q)) nm_0) (hup hf11 (hneD h_ide h_m rfl) h_ide)
    exact g_iret C0 G hr dX9_snapshot_14 (Nat.le_of_ble_eq_true rfl) (Nat.le_of_ble_eq_true rfl) (by exact ⟨(by rw [X9_snapshot_r0, if_pos c19]), (by rw [(by rw [X9_snapshot_x1, if_pos c19] : (X9_snapshot_x1 c_hi g) = c_hi)]; exact k17), (by rw [(by rw [X9_snapshot_g2, if_pos c19] : (X9_snapshot_g2 g gi) = gi)]; exact k40), (by rw [(by rw [X9_snapshot_g3, if_pos c19] : (X9_snapshot_g3 g gd gj d) = gj)]; exact k41), (fun a9 e9 h7 h8 => fr18 _ _ (fun q => h7 (by simp only [List.mem_cons, List.not_mem_nil, or_false] at q ⊢; first | exact q | (rcases q with q <;> simp [q]) | omega)) (hup hf11 (fun q => h7 (by rw [q]; simp)) (h8)))⟩)
def X9_restore_x0 (c_hi : Int32) : Int32 := if c_hi = 0 then 1 else 0
def X9_restore_r1 (c_hi : Int32) (gi : Nat → Int32) : Int32 := if c_hi = 0 then 0 else (gi 24)
def X9_restore_x2 (c_re : Int32) (c_hi : Int32) : Int32 := if c_hi = 0 then 7 else c_re
def X9_restore_x3 (c_un : Int32) (c_hi : Int32) : Int32 := if c_hi = 0 then c_un else 0
def X9_restore_g4 (c_hi : Int32) (g : Nat → Int32) (gi : Nat → Int32) : Nat → Int32 := if c_hi = 0 then g else (X9_copies_g0 6441 gi g)
def X9_restore_g5 (c_hi : Int32) (gd : Nat → Int32) (gj : Nat → Int32) (d : Nat) : Nat → Int32 := if c_hi = 0 then gd else (X9_copies_g0 (6 * d) gj gd)
set_option maxRecDepth 100000 in
theorem k_X9_restore {l : Launch} (hfl : l.stackTraces = false) {D : va_G} {cy : Nat → ClassId} {f : Hf} {sz : Nat} {m : Nat} {v : Nat} {im : Nat} {kp : Nat} {pa : Nat} {de : Nat} {ide : Nat} {tx : Nat} {pt : Nat} {so : Nat} {mo : Nat} {wh : Nat} {pf : Nat} {c_th : Int32} {c_re : Int32} {c_un : Int32} {c_hi : Int32} {c_tn : Int32} {c_fa : Int32} {c_rf : Int32} {c_ps : Int32} {c_pl : Int32} {c_to : Int32} {g : Nat → Int32} {gi : Nat → Int32} {gd : Nat → Int32} {gj : Nat → Int32} {d : Nat} (h_m : f m = some (.inr (11, [.int c_th, .int c_re, .ref v, .ref im, .ref kp, .ref pa, .ref de, .ref ide, .int c_un, .int c_hi, .ref tx, .int c_tn, .int c_fa, .int c_rf, .ref pt, .int c_ps, .int c_pl, .int c_to, .ref so, .ref mo, .ref wh, .ref pf]))) (h_v : f v = some (.inl (cy 0, 6441, .inl g))) (h_im : f im = some (.inl (cy 0, 6441, .inl gi))) (h_de : f de = some (.inl (cy 0, 24000, .inl gd))) (h_ide : f ide = some (.inl (cy 0, 24000, .inl gj))) (h23 : gi 23 = nI d) (hd : d < 4000) (hvi : im ≠ v) (hdi : ide ≠ de) : hMet l yX9_restore cX9_restore 1 (some .int) { frames := 1, cells := 0, slots := 0, locals := 23 } D (hTy cy) f sz [.ref m] (hQi (fun r u => r = (X9_restore_r1 c_hi gi) ∧ u m = some (.inr (11, [.int (X9_restore_x0 c_hi), .int (X9_restore_x2 c_re c_hi), .ref v, .ref im, .ref kp, .ref pa, .ref de, .ref ide, .int (X9_restore_x3 c_un c_hi), .int c_hi, .ref tx, .int c_tn, .int c_fa, .int c_rf, .ref pt, .int c_ps, .int c_pl, .int c_to, .ref so, .ref mo, .ref wh, .ref pf])) ∧ u v = some (.inl (cy 0, 6441, .inl (X9_restore_g4 c_hi g gi))) ∧ u de = some (.inl (cy 0, 24000, .inl (X9_restore_g5 c_hi gd gj d))) ∧ hFrL f u [m, v, de]) D f sz) hNo := by
  refine h_enter (by decide) hfl (Nat.le_of_ble_eq_true rfl) ?_
  intro p9 e9 s9 m9 b9 t9 c9 hsz C0 hr hnm G ls hl
  have hx := C0.1.1
  have hb := C0.1.2.1
  have hl : lv_has ls 1 [(0, .ref m)] := hl
  refine lv_aload_n hx hb dX9_restore_0 rfl (lv_at hl 0 rfl) ?_
  refine lv_aload_n hx hb dX9_restore_1 rfl (lv_at hl 0 rfl) ?_
  refine g_get C0 G h_m rfl hiX9 9 (by decide) mf_X9_240 rfl dX9_restore_2 ?_
  have J13 : ∀ (y12 : Int32) (_ : y12 = (X9_restore_x0 c_hi)) (H : Heap) (locs : List Loc) (ls : Array Slot), hG D (hA f sz) f s9 H locs → lv_has ls 1 [(0, .ref m)] → W p9 l e9 ({ frames := 1, cells := 0, slots := 0, locals := 23 } : Room) s9 m9 ([.ref m] : List Value).toArray b9 t9 c9 H locs 0 0 (vx_MQ b9 (hQi (fun r u => r = (X9_restore_r1 c_hi gi) ∧ u m = some (.inr (11, [.int (X9_restore_x0 c_hi), .int (X9_restore_x2 c_re c_hi), .ref v, .ref im, .ref kp, .ref pa, .ref de, .ref ide, .int (X9_restore_x3 c_un c_hi), .int c_hi, .ref tx, .int c_tn, .int c_fa, .int c_rf, .ref pt, .int c_ps, .int c_pl, .int c_to, .ref so, .ref mo, .ref wh, .ref pf])) ∧ u v = some (.inl (cy 0, 6441, .inl (X9_restore_g4 c_hi g gi))) ∧ u de = some (.inl (cy 0, 24000, .inl (X9_restore_g5 c_hi gd gj d))) ∧ hFrL f u [m, v, de]) D f sz) (hPx hNo D f sz) ([.ref m] : List Value).toArray s9 0 0 (hA f sz)) (F0 m9 13 ls [.int y12, .ref m]) := by
    intro y12 ey12 H locs ls G hl
    replace ey12 := Eq.symm ey12
    subst ey12
    refine g_put C0 G h_m rfl hiX9 tyX9 tyX9_ok nmX9 0 (by decide) mf_X9_55 rfl rfl rfl rfl (Nat.le_of_ble_eq_true rfl) dX9_restore_13 (fun H locs f15 hf15 G => ?_)
    have k16 : f15 m = some (.inr (11, [.int (X9_restore_x0 c_hi), .int c_re, .ref v, .ref im, .ref kp, .ref pa, .ref de, .ref ide, .int c_un, .int c_hi, .ref tx, .int c_tn, .int c_fa, .int c_rf, .ref pt, .int c_ps, .int c_pl, .int c_to, .ref so, .ref mo, .ref wh, .ref pf])) := hus hf15
    refine lv_aload_n hx hb dX9_restore_16 rfl (lv_at hl 0 rfl) ?_
    refine g_get C0 G k16 rfl hiX9 9 (by decide) mf_X9_240 rfl dX9_restore_17 ?_
    refine lv_if_ne (tgt := 31) hx hb dX9_restore_20 (by decide) (fun c17 => ?_) (fun c17 => ?_)
    · refine lv_aload_n hx hb dX9_restore_31 rfl (lv_at hl 0 rfl) ?_
      refine g_get C0 G k16 rfl hiX9 3 (by decide) mf_X9_13 rfl dX9_restore_32 ?_
      refine lv_aload_n hx hb dX9_restore_35 rfl (lv_at hl 0 rfl) ?_
      refine g_get C0 G k16 rfl hiX9 2 (by decide) mf_X9_9 rfl dX9_restore_36 ?_
      refine lv_sipush (v := 6441) hx hb dX9_restore_39 (by decide) ?_
      have k18 : f15 im = some (.inl (cy 0, 6441, .inl gi)) := hup hf15 (hneD h_im h_m rfl) h_im
      have k19 : f15 v = some (.inl (cy 0, 6441, .inl g)) := hup hf15 (hneD h_v h_m rfl) h_v
      refine g_cV C0 G (g_runS C0 G (rest := []) (k_X9_copies hfl (na := 6441) (nb := 6441) (n := 6441) (ga := gi) (gb := g) k18 k19 hvi (by omega) (by omega) (by omega) (by omega)) hY_X9_copies mm_X9_214 ms_X9_copies ⟨(Nat.le_of_ble_eq_true rfl), (Nat.le_of_ble_eq_true rfl)⟩ rfl hl.1 rfl (Nat.le_of_ble_eq_true rfl) dX9_restore_42 ⟨(Nat.le_of_ble_eq_true rfl), (Nat.le_of_ble_eq_true rfl)⟩) (kx_no rfl) (fun u21 H locs hp20 G => ?_)
      obtain ⟨k22, fr23⟩ := hp20
      refine lv_aload_n hx hb dX9_restore_45 rfl (lv_at hl 0 rfl) ?_
      have k24 : u21 m = some (.inr (11, [.int (X9_restore_x0 c_hi), .int c_re, .ref v, .ref im, .ref kp, .ref pa, .ref de, .ref ide, .int c_un, .int c_hi, .ref tx, .int c_tn, .int c_fa, .int c_rf, .ref pt, .int c_ps, .int c_pl, .int c_to, .ref so, .ref mo, .ref wh, .ref pf])) := fr23 _ _ (nm_c (hneD k16 k19 rfl) nm_0) k16
      refine g_get C0 G k24 rfl hiX9 7 (by decide) mf_X9_26 rfl dX9_restore_46 ?_
      refine lv_aload_n hx hb dX9_restore_49 rfl (lv_at hl 0 rfl) ?_
      refine g_get C0 G k24 rfl hiX9 6 (by decide) mf_X9_23 rfl dX9_restore_50 ?_
      refine lv_bipush (v := 6) hx hb dX9_restore_53 (by decide) ?_
      refine lv_aload_n hx hb dX9_restore_55 rfl (lv_at hl 0 rfl) ?_
      refine g_get C0 G k24 rfl hiX9 2 (by decide) mf_X9_9 rfl dX9_restore_56 ?_
      refine lv_bipush (v := 23) hx hb dX9_restore_59 (by decide) ?_
      refine g_iald C0 G k22 0 rfl (by unfold vp_in; decide) dX9_restore_61 ?_
      refine lv_topv (v := (X9_copies_g0 6441 gi g) 23) rfl ?_
      refine lv_topv (v := nI d) ((cp_at (by omega)).trans h23) ?_
      refine lv_imul hx hb dX9_restore_62 ?_
      refine lv_topv (v := nI (6 * d)) ((pk_mul _ _)) ?_
      have k25 : u21 ide = some (.inl (cy 0, 24000, .inl gj)) := fr23 _ _ (nm_c (by first | exact hneD (hup hf15 (hneD h_ide h_m rfl) h_ide) k19 rfl | exact hne (hup hf15 (hneD h_ide h_m rfl) h_ide) k19 (by intro q; cases q)) nm_0) (hup hf15 (hneD h_ide h_m rfl) h_ide)
      have k26 : u21 de = some (.inl (cy 0, 24000, .inl gd)) := fr23 _ _ (nm_c (by first | exact hneD (hup hf15 (hneD h_de h_m rfl) h_de) k19 rfl | exact hne (hup hf15 (hneD h_de h_m rfl) h_de) k19 (by intro q; cases q)) nm_0) (hup hf15 (hneD h_de h_m rfl) h_de)
      refine g_cV C0 G (g_runS C0 G (rest := []) (k_X9_copies hfl (na := 24000) (nb := 24000) (n := (6 * d)) (ga := gj) (gb := gd) k25 k26 hdi (by omega) (by omega) (by omega) (by omega)) hY_X9_copies mm_X9_214 ms_X9_copies ⟨(Nat.le_of_ble_eq_true rfl), (Nat.le_of_ble_eq_true rfl)⟩ rfl hl.1 rfl (Nat.le_of_ble_eq_true rfl) dX9_restore_63 ⟨(Nat.le_of_ble_eq_true rfl), (Nat.le_of_ble_eq_true rfl)⟩) (kx_no rfl) (fun u28 H locs hp27 G => ?_)
      obtain ⟨k29, fr30⟩ := hp27
      refine lv_aload_n hx hb dX9_restore_66 rfl (lv_at hl 0 rfl) ?_
      refine lv_iconst (v := 0) hx hb dX9_restore_67 (by decide) ?_
      have k31 : u28 m = some (.inr (11, [.int (X9_restore_x0 c_hi), .int c_re, .ref v, .ref im, .ref kp, .ref pa, .ref de, .ref ide, .int c_un, .int c_hi, .ref tx, .int c_tn, .int c_fa, .int c_rf, .ref pt, .int c_ps, .int c_pl, .int c_to, .ref so, .ref mo, .ref wh, .ref pf])) := fr30 _ _ (nm_c (hneD k24 k26 rfl) nm_0) k24
      refine g_put C0 G k31 rfl hiX9 tyX9 tyX9_ok nmX9 8 (by decide) mf_X9_84 rfl rfl rfl rfl (Nat.le_of_ble_eq_true rfl) dX9_restore_68 (fun H locs f32 hf32 G => ?_)
      have k33 : f32 m = some (.inr (11, [.int (X9_restore_x0 c_hi), .int c_re, .ref v, .ref im, .ref kp, .ref pa, .ref de, .ref ide, .int 0, .int c_hi, .ref tx, .int c_tn, .int c_fa, .int c_rf, .ref pt, .int c_ps, .int c_pl, .int c_to, .ref so, .ref mo, .ref wh, .ref pf])) := hus hf32
      refine lv_aload_n hx hb dX9_restore_71 rfl (lv_at hl 0 rfl) ?_
      refine g_get C0 G k33 rfl hiX9 2 (by decide) mf_X9_9 rfl dX9_restore_72 ?_
      refine lv_bipush (v := 24) hx hb dX9_restore_75 (by decide) ?_
      have k34 : f32 v = some (.inl (cy 0, 6441, .inl (X9_copies_g0 6441 gi g))) := hup hf32 (by first | exact hneD (fr30 _ _ (nm_c (by first | exact hneD k22 k26 rfl | exact hne k22 k26 (by intro q; cases q)) nm_0) k22) k31 rfl | exact hne (fr30 _ _ (nm_c (by first | exact hneD k22 k26 rfl | exact hne k22 k26 (by intro q; cases q)) nm_0) k22) k31 (by intro q; cases q)) (fr30 _ _ (nm_c (by first | exact hneD k22 k26 rfl | exact hne k22 k26 (by intro q; cases q)) nm_0) k22)
      refine g_iald C0 G k34 0 rfl (by unfold vp_in; decide) dX9_restore_77 ?_
      refine lv_topv (v := (X9_copies_g0 6441 gi g) 24) rfl ?_
      refine lv_topv (v := gi 24) (cp_at (by omega)) ?_
      have k35 : f32 de = some (.inl (cy 0, 24000, .inl (X9_copies_g0 (6 * d) gj gd))) := hup hf32 (by first | exact hneD k29 k31 rfl | exact hne k29 k31 (by intro q; cases q)) k29
      exact g_iret C0 G hr dX9_restore_78 (Nat.le_of_ble_eq_true rfl) (Nat.le_of_ble_eq_true rfl) (by exact ⟨(by rw [X9_restore_r1, if_neg c17]), (by rw [(by rw [X9_restore_x2, if_neg c17] : (X9_restore_x2 c_re c_hi) = c_re), (by rw [X9_restore_x3, if_neg c17] : (X9_restore_x3 c_un c_hi) = 0)]; exact k33), (by rw [(by rw [X9_restore_g4, if_neg c17] : (X9_restore_g4 c_hi g gi) = (X9_copies_g0 6441 gi g))]; exact k34), (by rw [(by rw [X9_restore_g5, if_neg c17] : (X9_restore_g5 c_hi gd gj d) = (X9_copies_g0 (6 * d) gj gd))]; exact k35), (fun a9 e9 h7 h8 => hup hf32 (fun q => h7 (by rw [q]; simp)) (fr30 _ _ (fun q => h7 (by simp only [List.mem_cons, List.not_mem_nil, or_false] at q ⊢; first | exact q | (rcases q with q <;> simp [q]) | omega)) (fr23 _ _ (fun q => h7 (by simp only [List.mem_cons, List.not_mem_nil, or_false] at q ⊢; first | exact q | (rcases q with q <;> simp [q]) | omega)) (hup hf15 (fun q => h7 (by rw [q]; simp)) (h8)))))⟩)
    · refine lv_aload_n hx hb dX9_restore_23 rfl (lv_at hl 0 rfl) ?_
      refine lv_bipush (v := 7) hx hb dX9_restore_24 (by decide) ?_
      refine g_put C0 G k16 rfl hiX9 tyX9 tyX9_ok nmX9 1 (by decide) mf_X9_166 rfl rfl rfl rfl (Nat.le_of_ble_eq_true rfl) dX9_restore_26 (fun H locs f36 hf36 G => ?_)
      have k37 : f36 m = some (.inr (11, [.int (X9_restore_x0 c_hi), .int 7, .ref v, .ref im, .ref kp, .ref pa, .ref de, .ref ide, .int c_un, .int c_hi, .ref tx, .int c_tn, .int c_fa, .int c_rf, .ref pt, .int c_ps, .int c_pl, .int c_to, .ref so, .ref mo, .ref wh, .ref pf])) := hus hf36
      refine lv_iconst (v := 0) hx hb dX9_restore_29 (by decide) ?_
      have k38 : f36 v = some (.inl (cy 0, 6441, .inl g)) := hup hf36 (by first | exact hneD (hup hf15 (hneD h_v h_m rfl) h_v) k16 rfl | exact hne (hup hf15 (hneD h_v h_m rfl) h_v) k16 (by intro q; cases q)) (hup hf15 (hneD h_v h_m rfl) h_v)
      have k39 : f36 de = some (.inl (cy 0, 24000, .inl gd)) := hup hf36 (by first | exact hneD (hup hf15 (hneD h_de h_m rfl) h_de) k16 rfl | exact hne (hup hf15 (hneD h_de h_m rfl) h_de) k16 (by intro q; cases q)) (hup hf15 (hneD h_de h_m rfl) h_de)
      exact g_iret C0 G hr dX9_restore_30 (Nat.le_of_ble_eq_true rfl) (Nat.le_of_ble_eq_true rfl) (by exact ⟨(by rw [X9_restore_r1, if_pos c17]), (by rw [(by rw [X9_restore_x2, if_pos c17] : (X9_restore_x2 c_re c_hi) = 7), (by rw [X9_restore_x3, if_pos c17] : (X9_restore_x3 c_un c_hi) = c_un)]; exact k37), (by rw [(by rw [X9_restore_g4, if_pos c17] : (X9_restore_g4 c_hi g gi) = g)]; exact k38), (by rw [(by rw [X9_restore_g5, if_pos c17] : (X9_restore_g5 c_hi gd gj d) = gd)]; exact k39), (fun a9 e9 h7 h8 => hup hf36 (fun q => h7 (by rw [q]; simp)) (hup hf15 (fun q => h7 (by rw [q]; simp)) (h8)))⟩)
  refine lv_if_eq (tgt := 12) hx hb dX9_restore_5 (by decide) (fun c11 => ?_) (fun c11 => ?_)
  · refine lv_iconst (v := 1) hx hb dX9_restore_12 (by decide) ?_
    exact J13 1 (by rw [X9_restore_x0, if_pos c11]) _ _ _ G (lv_sub hl [0] rfl)
  · refine lv_iconst (v := 0) hx hb dX9_restore_8 (by decide) ?_
    refine lv_goto (tgt := 13) hx hb dX9_restore_9 (by decide) ?_
    exact J13 0 (by rw [X9_restore_x0, if_neg c11]) _ _ _ G (lv_sub hl [0] rfl)
