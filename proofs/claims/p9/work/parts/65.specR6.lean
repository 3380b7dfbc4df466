def X9_begins_g0 (g : Nat → Int32) : Nat → Int32 := upd (zf g 0 6441) 0 1
def X9_begins_g1 (g : Nat → Int32) (ech : Int32) : Nat → Int32 := upd (X9_begins_g0 g) 1 ech
def X9_begins_g2 (g : Nat → Int32) (ech : Int32) (fst : Int32) : Nat → Int32 := upd (X9_begins_g1 g ech) 2 fst
def X9_begins_g3 (g : Nat → Int32) (ovs : Int32) (ech : Int32) (fst : Int32) : Nat → Int32 := upd (X9_begins_g2 g ech fst) 3 ovs
def X9_begins_g4 (g : Nat → Int32) (ovs : Int32) (ech : Int32) (fst : Int32) : Nat → Int32 := (X9_opens_g37 (X9_begins_g3 g ovs ech fst) 0 0)
set_option maxRecDepth 100000 in
theorem k_X9_begins {l : Launch} (hfl : l.stackTraces = false) {D : va_G} {cy : Nat → ClassId} {f : Hf} {sz : Nat} {m : Nat} {v : Nat} {im : Nat} {kp : Nat} {pa : Nat} {de : Nat} {ide : Nat} {tx : Nat} {pt : Nat} {so : Nat} {mo : Nat} {wh : Nat} {pf : Nat} {c_th : Int32} {c_re : Int32} {c_un : Int32} {c_hi : Int32} {c_tn : Int32} {c_fa : Int32} {c_rf : Int32} {c_ps : Int32} {c_pl : Int32} {c_to : Int32} {g : Nat → Int32} (ovs : Int32) (ech : Int32) (fst : Int32) (h_m : f m = some (.inr (11, [.int c_th, .int c_re, .ref v, .ref im, .ref kp, .ref pa, .ref de, .ref ide, .int c_un, .int c_hi, .ref tx, .int c_tn, .int c_fa, .int c_rf, .ref pt, .int c_ps, .int c_pl, .int c_to, .ref so, .ref mo, .ref wh, .ref pf]))) (h_v : f v = some (.inl (cy 0, 6441, .inl g)))  : hMet l yX9_begins cX9_begins 5 none { frames := 2, cells := 0, slots := 0, locals := 46 } D (hTy cy) f sz [.ref m, .int ovs, .int ech, .int fst] (hQv (fun u => u v = some (.inl (cy 0, 6441, .inl (X9_begins_g4 g ovs ech fst))) ∧ hFrL f u [v]) D f sz) hNo := by
  refine h_enter (by decide) hfl (Nat.le_of_ble_eq_true rfl) ?_
  intro p9 e9 s9 m9 b9 t9 c9 hsz C0 hr hnm G ls hl
  have hx := C0.1.1
  have hb := C0.1.2.1
  have hl : lv_has ls 5 [(0, .ref m), (1, .int ovs), (2, .int ech), (3, .int fst)] := hl
  refine lv_iconst (v := 0) hx hb dX9_begins_0 (by decide) ?_
  refine lv_istore (lv' := [(4, .int 0), (0, .ref m), (1, .int ovs), (2, .int ech), (3, .int fst)]) hx hb dX9_begins_1 hl (by decide) rfl (fun ls hl => ?_)
  refine W.widen (k := 0) (n := 0) (Nat.le_of_ble_eq_true rfl) (Nat.le_of_ble_eq_true rfl) ?_
  have LOOP3 : ∀ (k : Nat) (i : Nat) (f1 : Hf) (H : Heap) (locs : List Loc) (ls : Array Slot), (i ≤ 6441) → (6441 - i < k) → (f1 = va_up f v (some (.inl (cy 0, 6441, .inl (zf g 0 i))))) → f1 m = some (.inr (11, [.int c_th, .int c_re, .ref v, .ref im, .ref kp, .ref pa, .ref de, .ref ide, .int c_un, .int c_hi, .ref tx, .int c_tn, .int c_fa, .int c_rf, .ref pt, .int c_ps, .int c_pl, .int c_to, .ref so, .ref mo, .ref wh, .ref pf])) → f1 v = some (.inl (cy 0, 6441, .inl (zf g 0 i))) → hG D (hA f sz) f1 s9 H locs → lv_has ls 5 [(4, .int (nI i)), (0, .ref m), (1, .int ovs), (2, .int ech), (3, .int fst)] → W p9 l e9 ({ frames := 2, cells := 0, slots := 0, locals := 46 } : Room) s9 m9 ([.ref m, .int ovs, .int ech, .int fst] : List Value).toArray b9 t9 c9 H locs 0 0 (vx_MQ b9 (hQv (fun u => u v = some (.inl (cy 0, 6441, .inl (X9_begins_g4 g ovs ech fst))) ∧ hFrL f u [v]) D f sz) (hPx hNo D f sz) ([.ref m, .int ovs, .int ech, .int fst] : List Value).toArray s9 0 0 (hA f sz)) (F0 m9 3 ls []) := by
    intro k
    induction k with
    | zero =>
      intro i f1 H locs ls hi2 hk he h_m1 h_v1 G hl
      exact absurd hk (by omega)
    | succ k ih =>
      intro i f1 H locs ls hi2 hk he h_m1 h_v1 G hl
      refine lv_iload hx hb dX9_begins_3 (lv_at hl 0 rfl) ?_
      refine lv_sipush (v := 6441) hx hb dX9_begins_5 (by decide) ?_
      refine lv_icmp_ge (tgt := 25) hx hb dX9_begins_8 (by decide) (fun c11 => ?_) (fun c11 => ?_)
      · have n12 : 6441 ≤ i := (nI_leI (a := 6441) (b := i) (by omega) (by omega)).mp c11
        have hi9 : 6441 = i := by omega
        subst hi9
        refine lv_aload_n hx hb dX9_begins_25 rfl (lv_at hl 1 rfl) ?_
        refine g_get C0 G h_m1 rfl hiX9 2 (by decide) mf_X9_9 rfl dX9_begins_26 ?_
        refine lv_iconst (v := 0) hx hb dX9_begins_29 (by decide) ?_
        refine lv_iconst (v := 1) hx hb dX9_begins_30 (by decide) ?_
        refine g_iast C0 G h_v1 0 rfl (by unfold vp_in; decide) dX9_begins_31 (fun H locs f13 hf13 G => ?_)
        have k14 : f13 v = some (.inl (cy 0, 6441, .inl (X9_begins_g0 g))) := hus hf13
        refine lv_aload_n hx hb dX9_begins_32 rfl (lv_at hl 1 rfl) ?_
        have k15 : f13 m = some (.inr (11, [.int c_th, .int c_re, .ref v, .ref im, .ref kp, .ref pa, .ref de, .ref ide, .int c_un, .int c_hi, .ref tx, .int c_tn, .int c_fa, .int c_rf, .ref pt, .int c_ps, .int c_pl, .int c_to, .ref so, .ref mo, .ref wh, .ref pf])) := hup hf13 (hne h_m1 h_v1 (by intro q; cases q)) h_m1
        refine g_get C0 G k15 rfl hiX9 2 (by decide) mf_X9_9 rfl dX9_begins_33 ?_
        refine lv_iconst (v := 1) hx hb dX9_begins_36 (by decide) ?_
        refine lv_iload_n hx hb dX9_begins_37 rfl (lv_at hl 3 rfl) ?_
        refine g_iast C0 G k14 0 rfl (by unfold vp_in; decide) dX9_begins_38 (fun H locs f16 hf16 G => ?_)
        have k17 : f16 v = some (.inl (cy 0, 6441, .inl (X9_begins_g1 g ech))) := hus hf16
        refine lv_aload_n hx hb dX9_begins_39 rfl (lv_at hl 1 rfl) ?_
        have k18 : f16 m = some (.inr (11, [.int c_th, .int c_re, .ref v, .ref im, .ref kp, .ref pa, .ref de, .ref ide, .int c_un, .int c_hi, .ref tx, .int c_tn, .int c_fa, .int c_rf, .ref pt, .int c_ps, .int c_pl, .int c_to, .ref so, .ref mo, .ref wh, .ref pf])) := hup hf16 (hne k15 k14 (by intro q; cases q)) k15
        refine g_get C0 G k18 rfl hiX9 2 (by decide) mf_X9_9 rfl dX9_begins_40 ?_
        refine lv_iconst (v := 2) hx hb dX9_begins_43 (by decide) ?_
        refine lv_iload_n hx hb dX9_begins_44 rfl (lv_at hl 4 rfl) ?_
        refine g_iast C0 G k17 0 rfl (by unfold vp_in; decide) dX9_begins_45 (fun H locs f19 hf19 G => ?_)
        have k20 : f19 v = some (.inl (cy 0, 6441, .inl (X9_begins_g2 g ech fst))) := hus hf19
        refine lv_aload_n hx hb dX9_begins_46 rfl (lv_at hl 1 rfl) ?_
        have k21 : f19 m = some (.inr (11, [.int c_th, .int c_re, .ref v, .ref im, .ref kp, .ref pa, .ref de, .ref ide, .int c_un, .int c_hi, .ref tx, .int c_tn, .int c_fa, .int c_rf, .ref pt, .int c_ps, .int c_pl, .int c_to, .ref so, .ref mo, .ref wh, .ref pf])) := hup hf19 (hne k18 k17 (by intro q; cases q)) k18
        refine g_get C0 G k21 rfl hiX9 2 (by decide) mf_X9_9 rfl dX9_begins_47 ?_
        refine lv_iconst (v := 3) hx hb dX9_begins_50 (by decide) ?_
        refine lv_iload_n hx hb dX9_begins_51 rfl (lv_at hl 2 rfl) ?_
        refine g_iast C0 G k20 0 rfl (by unfold vp_in; decide) dX9_begins_52 (fun H locs f22 hf22 G => ?_)
        have k23 : f22 v = some (.inl (cy 0, 6441, .inl (X9_begins_g3 g ovs ech fst))) := hus hf22
        refine lv_aload_n hx hb dX9_begins_53 rfl (lv_at hl 1 rfl) ?_
        refine lv_iconst (v := 0) hx hb dX9_begins_54 (by decide) ?_
        have k24 : f22 m = some (.inr (11, [.int c_th, .int c_re, .ref v, .ref im, .ref kp, .ref pa, .ref de, .ref ide, .int c_un, .int c_hi, .ref tx, .int c_tn, .int c_fa, .int c_rf, .ref pt, .int c_ps, .int c_pl, .int c_to, .ref so, .ref mo, .ref wh, .ref pf])) := hup hf22 (hne k21 k20 (by intro q; cases q)) k21
        refine g_cV C0 G (g_runV C0 G (rest := []) (k_X9_opens hfl (c_th := c_th) (c_re := c_re) (c_un := c_un) (c_hi := c_hi) (c_tn := c_tn) (c_fa := c_fa) (c_rf := c_rf) (c_ps := c_ps) (c_pl := c_pl) (c_to := c_to) (g := (X9_begins_g3 g ovs ech fst)) (i := 0) (s := 0) k24 k23 (by omega) (by rw [X9_begins_g3, upd_off (by omega)]; exact (by rw [X9_begins_g2, upd_off (by omega)]; exact (by rw [X9_begins_g1, upd_off (by omega)]; exact (by rw [X9_begins_g0, upd_off (by omega)]; exact (by first | (simp [zf]; done) | (simp [zf]; rfl)))))) (by omega)) k24 rfl hY_X9_opens mm_X9_72 mi_X9_opens ml_X9_opens ⟨(Nat.le_of_ble_eq_true rfl), (Nat.le_of_ble_eq_true rfl)⟩ rfl hl.1 rfl (Nat.le_of_ble_eq_true rfl) dX9_begins_55 ⟨(Nat.le_of_ble_eq_true rfl), (Nat.le_of_ble_eq_true rfl)⟩) (kx_no rfl) (fun u26 H locs hp25 G => ?_)
        obtain ⟨k27, fr28⟩ := hp25
        exact g_vret C0 G hr dX9_begins_58 (Nat.le_of_ble_eq_true rfl) (Nat.le_of_ble_eq_true rfl) (by exact ⟨(by rw [(by rw [X9_begins_g4] : (X9_begins_g4 g ovs ech fst) = (X9_opens_g37 (X9_begins_g3 g ovs ech fst) 0 0))]; exact k27), (fun a9 e9 h7 h8 => fr28 _ _ (fun q => h7 (by simp only [List.mem_cons, List.not_mem_nil, or_false] at q ⊢; first | exact q | (rcases q with q <;> simp [q]) | omega)) (hup hf22 (fun q => h7 (by rw [q]; simp)) (hup hf19 (fun q => h7 (by rw [q]; simp)) (hup hf16 (fun q => h7 (by rw [q]; simp)) (hup hf13 (fun q => h7 (by rw [q]; simp)) (hup he (fun q => h7 (by rw [q]; simp)) (h8)))))))⟩)
      · have n29 : ¬ 6441 ≤ i := fun q => c11 ((nI_leI (a := 6441) (b := i) (by omega) (by omega)).mpr q)
        refine lv_aload_n hx hb dX9_begins_11 rfl (lv_at hl 1 rfl) ?_
        refine g_get C0 G h_m1 rfl hiX9 2 (by decide) mf_X9_9 rfl dX9_begins_12 ?_
        refine lv_iload hx hb dX9_begins_15 (lv_at hl 0 rfl) ?_
        refine lv_iconst (v := 0) hx hb dX9_begins_17 (by decide) ?_
        refine g_iast C0 G h_v1 0 rfl (vp_in_nI (by omega) (by omega)) dX9_begins_18 (fun H locs f30 hf30 G => ?_)
        have k31 : f30 v = some (.inl (cy 0, 6441, .inl (upd (zf g 0 i) (nI i).toNatClampNeg 0))) := hus hf30
        refine lv_iinc (v := nI (i + 1)) (lv' := [(4, .int (nI (i + 1))), (0, .ref m), (1, .int ovs), (2, .int ech), (3, .int fst)]) hx hb dX9_begins_19 hl (k := 0) rfl (by exact (nI_add _ _)) (by decide) rfl (fun ls hl => ?_)
        refine lv_goto (tgt := 3) hx hb dX9_begins_22 (by decide) ?_
        have k33 : f30 m = some (.inr (11, [.int c_th, .int c_re, .ref v, .ref im, .ref kp, .ref pa, .ref de, .ref ide, .int c_un, .int c_hi, .ref tx, .int c_tn, .int c_fa, .int c_rf, .ref pt, .int c_ps, .int c_pl, .int c_to, .ref so, .ref mo, .ref wh, .ref pf])) := hup hf30 (hne h_m1 h_v1 (by intro q; cases q)) h_m1
        exact ih (i + 1) f30 _ _ _ (by omega) (by omega) (by rw [hf30, he, hup2, nI_c (by omega), zf_s _ (by omega)]) k33 (by have h9 := k31; rw [nI_c (by omega), zf_s _ (by omega)] at h9; exact h9) G (lv_sub hl [0, 1, 2, 3, 4] rfl)
  exact LOOP3 6442 0 f _ _ _ (by omega) (by omega) (by rw [zf_0, hupid h_v]) h_m (by rw [zf_0]; exact h_v) G (lv_sub hl [0, 1, 2, 3, 4] rfl)
theorem rd_X9_begins_0 {g : Nat → Int32} {ovs : Int32} {ech : Int32} {fst : Int32} : (X9_begins_g4 g ovs ech fst) 0 = 1 := (by rw [X9_begins_g4]; exact ((rd_X9_opens_0 (by omega) (by omega)).trans (by rw [X9_begins_g3, upd_off (by omega)]; exact (by rw [X9_begins_g2, upd_off (by omega)]; exact (by rw [X9_begins_g1, upd_off (by omega)]; exact (by rw [X9_begins_g0, upd_at]))))))
theorem rd_X9_begins_1 {g : Nat → Int32} {ovs : Int32} {ech : Int32} {fst : Int32} : (X9_begins_g4 g ovs ech fst) 1 = ech := (by rw [X9_begins_g4]; exact ((rd_X9_opens_1 (by omega) (by omega)).trans (by rw [X9_begins_g3, upd_off (by omega)]; exact (by rw [X9_begins_g2, upd_off (by omega)]; exact (by rw [X9_begins_g1, upd_at])))))
theorem rd_X9_begins_2 {g : Nat → Int32} {ovs : Int32} {ech : Int32} {fst : Int32} : (X9_begins_g4 g ovs ech fst) 2 = fst := (by rw [X9_begins_g4]; exact ((rd_X9_opens_2 (by omega) (by omega)).trans (by rw [X9_begins_g3, upd_off (by omega)]; exact (by rw [X9_begins_g2, upd_at]))))
theorem rd_X9_begins_4 {g : Nat → Int32} {ovs : Int32} {ech : Int32} {fst : Int32} : (X9_begins_g4 g ovs ech fst) 4 = nI 0 := (by rw [X9_begins_g4]; exact (rd_X9_opens_4 (by omega) (by omega)))
theorem rd_X9_begins_5 {g : Nat → Int32} {ovs : Int32} {ech : Int32} {fst : Int32} : (X9_begins_g4 g ovs ech fst) 5 = 0 := (by rw [X9_begins_g4]; exact ((rd_X9_opens_5 (by omega) (by omega)).trans (by rw [X9_begins_g3, upd_off (by omega)]; exact (by rw [X9_begins_g2, upd_off (by omega)]; exact (by rw [X9_begins_g1, upd_off (by omega)]; exact (by rw [X9_begins_g0, upd_off (by omega)]; exact (by first | (simp [zf]; done) | (simp [zf]; rfl))))))))
theorem rd_X9_begins_6 {g : Nat → Int32} {ovs : Int32} {ech : Int32} {fst : Int32} : (X9_begins_g4 g ovs ech fst) 6 = 0 := (by rw [X9_begins_g4]; exact (rd_X9_opens_6 (by omega) (by omega)))
theorem rd_X9_begins_7 {g : Nat → Int32} {ovs : Int32} {ech : Int32} {fst : Int32} : (X9_begins_g4 g ovs ech fst) 7 = 1 := (by rw [X9_begins_g4]; exact (rd_X9_opens_7 (by omega) (by omega)))
theorem rd_X9_begins_8 {g : Nat → Int32} {ovs : Int32} {ech : Int32} {fst : Int32} : (X9_begins_g4 g ovs ech fst) 8 = -1 := (by rw [X9_begins_g4]; exact (rd_X9_opens_8 (by omega) (by omega)))
theorem rd_X9_begins_9 {g : Nat → Int32} {ovs : Int32} {ech : Int32} {fst : Int32} : (X9_begins_g4 g ovs ech fst) 9 = -1 := (by rw [X9_begins_g4]; exact (rd_X9_opens_9 (by omega) (by omega)))
theorem rd_X9_begins_22 {g : Nat → Int32} {ovs : Int32} {ech : Int32} {fst : Int32} : (X9_begins_g4 g ovs ech fst) 22 = nI (0 + 1) := (by rw [X9_begins_g4]; exact (rd_X9_opens_22 (by omega) (by omega)))
theorem rd_X9_begins_23 {g : Nat → Int32} {ovs : Int32} {ech : Int32} {fst : Int32} : (X9_begins_g4 g ovs ech fst) 23 = 0 := (by rw [X9_begins_g4]; exact ((rd_X9_opens_23 (by omega) (by omega)).trans (by rw [X9_begins_g3, upd_off (by omega)]; exact (by rw [X9_begins_g2, upd_off (by omega)]; exact (by rw [X9_begins_g1, upd_off (by omega)]; exact (by rw [X9_begins_g0, upd_off (by omega)]; exact (by first | (simp [zf]; done) | (simp [zf]; rfl))))))))
theorem rd_X9_begins_24 {g : Nat → Int32} {ovs : Int32} {ech : Int32} {fst : Int32} : (X9_begins_g4 g ovs ech fst) 24 = 0 := (by rw [X9_begins_g4]; exact ((rd_X9_opens_24 (by omega) (by omega)).trans (by rw [X9_begins_g3, upd_off (by omega)]; exact (by rw [X9_begins_g2, upd_off (by omega)]; exact (by rw [X9_begins_g1, upd_off (by omega)]; exact (by rw [X9_begins_g0, upd_off (by omega)]; exact (by first | (simp [zf]; done) | (simp [zf]; rfl))))))))
def X9_begin_x0 (fst : Int32) : Int32 := if (X9_isIn_x1 fst 0 1) = 0 then 1 else 0
def X9_begin_x1 (ech : Int32) (fst : Int32) : Int32 := if (X9_isIn_x1 ech 1 2) = 0 then 1 else (X9_begin_x0 fst)
def X9_begin_x2 (ovs : Int32) (ech : Int32) (fst : Int32) : Int32 := if (X9_isIn_x1 ovs 1 20) = 0 then 1 else (X9_begin_x1 ech fst)
def X9_begin_r3 (ovs : Int32) (ech : Int32) (fst : Int32) : Int32 := if (X9_begin_x2 ovs ech fst) = 1 then 0 else (X9_fifth_r0 ovs)
def X9_begin_x4 (c_un : Int32) (ovs : Int32) (ech : Int32) (fst : Int32) : Int32 := if (X9_begin_x2 ovs ech fst) = 1 then c_un else 0
def X9_begin_g5 (g : Nat → Int32) (ovs : Int32) (ech : Int32) (fst : Int32) : Nat → Int32 := if (X9_begin_x2 ovs ech fst) = 1 then g else (X9_begins_g4 g ovs ech fst)
set_option maxRecDepth 100000 in
theorem k_X9_begin {l : Launch} (hfl : l.stackTraces = false) {D : va_G} {cy : Nat → ClassId} {f : Hf} {sz : Nat} {m : Nat} {v : Nat} {im : Nat} {kp : Nat} {pa : Nat} {de : Nat} {ide : Nat} {tx : Nat} {pt : Nat} {so : Nat} {mo : Nat} {wh : Nat} {pf : Nat} {c_th : Int32} {c_re : Int32} {c_un : Int32} {c_hi : Int32} {c_tn : Int32} {c_fa : Int32} {c_rf : Int32} {c_ps : Int32} {c_pl : Int32} {c_to : Int32} {g : Nat → Int32} (ovs : Int32) (ech : Int32) (fst : Int32) (h_m : f m = some (.inr (11, [.int c_th, .int c_re, .ref v, .ref im, .ref kp, .ref pa, .ref de, .ref ide, .int c_un, .int c_hi, .ref tx, .int c_tn, .int c_fa, .int c_rf, .ref pt, .int c_ps, .int c_pl, .int c_to, .ref so, .ref mo, .ref wh, .ref pf]))) (h_v : f v = some (.inl (cy 0, 6441, .inl g)))  : hMet l yX9_begin cX9_begin 4 (some .int) { frames := 3, cells := 0, slots := 0, locals := 70 } D (hTy cy) f sz [.ref m, .int ovs, .int ech, .int fst] (hQi (fun r u => r = (X9_begin_r3 ovs ech fst) ∧ u m = some (.inr (11, [.int (X9_begin_x2 ovs ech fst), .int c_re, .ref v, .ref im, .ref kp, .ref pa, .ref de, .ref ide, .int (X9_begin_x4 c_un ovs ech fst), .int c_hi, .ref tx, .int c_tn, .int c_fa, .int c_rf, .ref pt, .int c_ps, .int c_pl, .int c_to, .ref so, .ref mo, .ref wh, .ref pf])) ∧ u v = some (.inl (cy 0, 6441, .inl (X9_begin_g5 g ovs ech fst))) ∧ hFrL f u [m, v]) D f sz) hNo := by
  refine h_enter (by decide) hfl (Nat.le_of_ble_eq_true rfl) ?_
  intro p9 e9 s9 m9 b9 t9 c9 hsz C0 hr hnm G ls hl
  have hx := C0.1.1
  have hb := C0.1.2.1
  have hl : lv_has ls 4 [(0, .ref m), (1, .int ovs), (2, .int ech), (3, .int fst)] := hl
  refine lv_aload_n hx hb dX9_begin_0 rfl (lv_at hl 0 rfl) ?_
  refine lv_iload_n hx hb dX9_begin_1 rfl (lv_at hl 1 rfl) ?_
  refine lv_iconst (v := 1) hx hb dX9_begin_2 (by decide) ?_
  refine lv_bipush (v := 20) hx hb dX9_begin_3 (by decide) ?_
  refine g_cI C0 G (g_runS C0 G (rest := [.ref m]) (k_X9_isIn hfl ovs 1 20 ) hY_X9_isIn mm_X9_76 ms_X9_isIn ⟨(Nat.le_of_ble_eq_true rfl), (Nat.le_of_ble_eq_true rfl)⟩ rfl hl.1 rfl (Nat.le_of_ble_eq_true rfl) dX9_begin_5 ⟨(Nat.le_of_ble_eq_true rfl), (Nat.le_of_ble_eq_true rfl)⟩) (kx_no rfl) (fun r13 u12 H locs hp11 G => ?_)
  obtain ⟨zr, eu12⟩ := hp11
  replace zr := Eq.symm zr
  subst zr
  rw [eu12] at G
  have J16 : ∀ (y15 : Int32) (_ : y15 = (X9_begin_x2 ovs ech fst)) (H : Heap) (locs : List Loc) (ls : Array Slot), hG D (hA f sz) f s9 H locs → lv_has ls 4 [(0, .ref m), (1, .int ovs), (2, .int ech), (3, .int fst)] → W p9 l e9 ({ frames := 3, cells := 0, slots := 0, locals := 70 } : Room) s9 m9 ([.ref m, .int ovs, .int ech, .int fst] : List Value).toArray b9 t9 c9 H locs 0 0 (vx_MQ b9 (hQi (fun r u => r = (X9_begin_r3 ovs ech fst) ∧ u m = some (.inr (11, [.int (X9_begin_x2 ovs ech fst), .int c_re, .ref v, .ref im, .ref kp, .ref pa, .ref de, .ref ide, .int (X9_begin_x4 c_un ovs ech fst), .int c_hi, .ref tx, .int c_tn, .int c_fa, .int c_rf, .ref pt, .int c_ps, .int c_pl, .int c_to, .ref so, .ref mo, .ref wh, .ref pf])) ∧ u v = some (.inl (cy 0, 6441, .inl (X9_begin_g5 g ovs ech fst))) ∧ hFrL f u [m, v]) D f sz) (hPx hNo D f sz) ([.ref m, .int ovs, .int ech, .int fst] : List Value).toArray s9 0 0 (hA f sz)) (F0 m9 34 ls [.int y15, .ref m]) := by
    intro y15 ey15 H locs ls G hl
    replace ey15 := Eq.symm ey15
    subst ey15
    refine g_put C0 G h_m rfl hiX9 tyX9 tyX9_ok nmX9 0 (by decide) mf_X9_55 rfl rfl rfl rfl (Nat.le_of_ble_eq_true rfl) dX9_begin_34 (fun H locs f18 hf18 G => ?_)
    have k19 : f18 m = some (.inr (11, [.int (X9_begin_x2 ovs ech fst), .int c_re, .ref v, .ref im, .ref kp, .ref pa, .ref de, .ref ide, .int c_un, .int c_hi, .ref tx, .int c_tn, .int c_fa, .int c_rf, .ref pt, .int c_ps, .int c_pl, .int c_to, .ref so, .ref mo, .ref wh, .ref pf])) := hus hf18
    refine lv_aload_n hx hb dX9_begin_37 rfl (lv_at hl 0 rfl) ?_
    refine g_get C0 G k19 rfl hiX9 0 (by decide) mf_X9_55 rfl dX9_begin_38 ?_
    refine lv_iconst (v := 1) hx hb dX9_begin_41 (by decide) ?_
    refine lv_icmp_ne (tgt := 47) hx hb dX9_begin_42 (by decide) (fun c20 => ?_) (fun c20 => ?_)
    · refine lv_aload_n hx hb dX9_begin_47 rfl (lv_at hl 0 rfl) ?_
      refine lv_iload_n hx hb dX9_begin_48 rfl (lv_at hl 1 rfl) ?_
      refine lv_iload_n hx hb dX9_begin_49 rfl (lv_at hl 2 rfl) ?_
      refine lv_iload_n hx hb dX9_begin_50 rfl (lv_at hl 3 rfl) ?_
      have k21 : f18 v = some (.inl (cy 0, 6441, .inl g)) := hup hf18 (hne h_v h_m (by intro q; cases q)) h_v
      refine g_cV C0 G (g_runV C0 G (rest := []) (k_X9_begins hfl ovs ech fst k19 k21) k19 rfl hY_X9_begins mm_X9_80 mi_X9_begins ml_X9_begins ⟨(Nat.le_of_ble_eq_true rfl), (Nat.le_of_ble_eq_true rfl)⟩ rfl hl.1 rfl (Nat.le_of_ble_eq_true rfl) dX9_begin_51 ⟨(Nat.le_of_ble_eq_true rfl), (Nat.le_of_ble_eq_true rfl)⟩) (kx_no rfl) (fun u23 H locs hp22 G => ?_)
      obtain ⟨k24, fr25⟩ := hp22
      refine lv_aload_n hx hb dX9_begin_54 rfl (lv_at hl 0 rfl) ?_
      refine lv_iconst (v := 0) hx hb dX9_begin_55 (by decide) ?_
      have k26 : u23 m = some (.inr (11, [.int (X9_begin_x2 ovs ech fst), .int c_re, .ref v, .ref im, .ref kp, .ref pa, .ref de, .ref ide, .int c_un, .int c_hi, .ref tx, .int c_tn, .int c_fa, .int c_rf, .ref pt, .int c_ps, .int c_pl, .int c_to, .ref so, .ref mo, .ref wh, .ref pf])) := fr25 _ _ (by simp only [List.mem_cons, List.not_mem_nil, or_false]; intro q; exact (hne k19 k21 (by intro q; cases q)) q) k19
      refine g_put C0 G k26 rfl hiX9 tyX9 tyX9_ok nmX9 8 (by decide) mf_X9_84 rfl rfl rfl rfl (Nat.le_of_ble_eq_true rfl) dX9_begin_56 (fun H locs f27 hf27 G => ?_)
      have k28 : f27 m = some (.inr (11, [.int (X9_begin_x2 ovs ech fst), .int c_re, .ref v, .ref im, .ref kp, .ref pa, .ref de, .ref ide, .int 0, .int c_hi, .ref tx, .int c_tn, .int c_fa, .int c_rf, .ref pt, .int c_ps, .int c_pl, .int c_to, .ref so, .ref mo, .ref wh, .ref pf])) := hus hf27
      refine lv_iload_n hx hb dX9_begin_59 rfl (lv_at hl 1 rfl) ?_
      refine g_cI C0 G (g_runS C0 G (rest := []) (k_X9_fifth hfl ovs ) hY_X9_fifth mm_X9_87 ms_X9_fifth ⟨(Nat.le_of_ble_eq_true rfl), (Nat.le_of_ble_eq_true rfl)⟩ rfl hl.1 rfl (Nat.le_of_ble_eq_true rfl) dX9_begin_60 ⟨(Nat.le_of_ble_eq_true rfl), (Nat.le_of_ble_eq_true rfl)⟩) (kx_no rfl) (fun r31 u30 H locs hp29 G => ?_)
      obtain ⟨zr, eu30⟩ := hp29
      replace zr := Eq.symm zr
      subst zr
      rw [eu30] at G
      have k32 : f27 v = some (.inl (cy 0, 6441, .inl (X9_begins_g4 g ovs ech fst))) := hup hf27 (hne k24 k26 (by intro q; cases q)) k24
      exact g_iret C0 G hr dX9_begin_63 (Nat.le_of_ble_eq_true rfl) (Nat.le_of_ble_eq_true rfl) (by exact ⟨(by rw [X9_begin_r3, if_neg c20]), (by rw [(by rw [X9_begin_x4, if_neg c20] : (X9_begin_x4 c_un ovs ech fst) = 0)]; exact k28), (by rw [(by rw [X9_begin_g5, if_neg c20] : (X9_begin_g5 g ovs ech fst) = (X9_begins_g4 g ovs ech fst))]; exact k32), (fun a9 e9 h7 h8 => hup hf27 (fun q => h7 (by rw [q]; simp)) (fr25 _ _ (fun q => h7 (by simp only [List.mem_cons, List.not_mem_nil, or_false] at q ⊢; first | exact q | (rcases q with q <;> simp [q]) | omega)) (hup hf18 (fun q => h7 (by rw [q]; simp)) (h8))))⟩)
    · refine lv_iconst (v := 0) hx hb dX9_begin_45 (by decide) ?_
      have k33 : f18 v = some (.inl (cy 0, 6441, .inl g)) := hup hf18 (hne h_v h_m (by intro q; cases q)) h_v
      exact g_iret C0 G hr dX9_begin_46 (Nat.le_of_ble_eq_true rfl) (Nat.le_of_ble_eq_true rfl) (by exact ⟨(by rw [X9_begin_r3, if_pos c20]), (by rw [(by rw [X9_begin_x4, if_pos c20] : (X9_begin_x4 c_un ovs ech fst) = c_un)]; exact k19), (by rw [(by rw [X9_begin_g5, if_pos c20] : (X9_begin_g5 g ovs ech fst) = g)]; exact k33), (fun a9 e9 h7 h8 => hup hf18 (fun q => h7 (by rw [q]; simp)) (h8))⟩)
  refine lv_if_eq (tgt := 33) hx hb dX9_begin_8 (by decide) (fun c14 => ?_) (fun c14 => ?_)
  · refine lv_iconst (v := 1) hx hb dX9_begin_33 (by decide) ?_
    exact J16 1 (by rw [X9_begin_x2, if_pos c14]) _ _ _ G (lv_sub hl [0, 1, 2, 3] rfl)
  · refine lv_iload_n hx hb dX9_begin_11 rfl (lv_at hl 2 rfl) ?_
    refine lv_iconst (v := 1) hx hb dX9_begin_12 (by decide) ?_
    refine lv_iconst (v := 2) hx hb dX9_begin_13 (by decide) ?_
    refine g_cI C0 G (g_runS C0 G (rest := [.ref m]) (k_X9_isIn hfl ech 1 2 ) hY_X9_isIn mm_X9_76 ms_X9_isIn ⟨(Nat.le_of_ble_eq_true rfl), (Nat.le_of_ble_eq_true rfl)⟩ rfl hl.1 rfl (Nat.le_of_ble_eq_true rfl) dX9_begin_14 ⟨(Nat.le_of_ble_eq_true rfl), (Nat.le_of_ble_eq_true rfl)⟩) (kx_no rfl) (fun r36 u35 H locs hp34 G => ?_)
    obtain ⟨zr, eu35⟩ := hp34
    replace zr := Eq.symm zr
    subst zr
    rw [eu35] at G
    have J39 : ∀ (y38 : Int32) (_ : y38 = (X9_begin_x1 ech fst)) (H : Heap) (locs : List Loc) (ls : Array Slot), hG D (hA f sz) f s9 H locs → lv_has ls 4 [(0, .ref m), (1, .int ovs), (2, .int ech), (3, .int fst)] → W p9 l e9 ({ frames := 3, cells := 0, slots := 0, locals := 70 } : Room) s9 m9 ([.ref m, .int ovs, .int ech, .int fst] : List Value).toArray b9 t9 c9 H locs 0 0 (vx_MQ b9 (hQi (fun r u => r = (X9_begin_r3 ovs ech fst) ∧ u m = some (.inr (11, [.int (X9_begin_x2 ovs ech fst), .int c_re, .ref v, .ref im, .ref kp, .ref pa, .ref de, .ref ide, .int (X9_begin_x4 c_un ovs ech fst), .int c_hi, .ref tx, .int c_tn, .int c_fa, .int c_rf, .ref pt, .int c_ps, .int c_pl, .int c_to, .ref so, .ref mo, .ref wh, .ref pf])) ∧ u v = some (.inl (cy 0, 6441, .inl (X9_begin_g5 g ovs ech fst))) ∧ hFrL f u [m, v]) D f sz) (hPx hNo D f sz) ([.ref m, .int ovs, .int ech, .int fst] : List Value).toArray s9 0 0 (hA f sz)) (F0 m9 34 ls [.int y38, .ref m]) := by
      intro y38 ey38 H locs ls G hl
      replace ey38 := Eq.symm ey38
      subst ey38
      exact J16 (X9_begin_x1 ech fst) (by rw [X9_begin_x2, if_neg c14]) _ _ _ G (lv_sub hl [0, 1, 2, 3] rfl)
    refine lv_if_eq (tgt := 33) hx hb dX9_begin_17 (by decide) (fun c37 => ?_) (fun c37 => ?_)
    · refine lv_iconst (v := 1) hx hb dX9_begin_33 (by decide) ?_
      exact J39 1 (by rw [X9_begin_x1, if_pos c37]) _ _ _ G (lv_sub hl [0, 1, 2, 3] rfl)
    · refine lv_iload_n hx hb dX9_begin_20 rfl (lv_at hl 3 rfl) ?_
      refine lv_iconst (v := 0) hx hb dX9_begin_21 (by decide) ?_
      refine lv_iconst (v := 1) hx hb dX9_begin_22 (by decide) ?_
      refine g_cI C0 G (g_runS C0 G (rest := [.ref m]) (k_X9_isIn hfl fst 0 1 ) hY_X9_isIn mm_X9_76 ms_X9_isIn ⟨(Nat.le_of_ble_eq_true rfl), (Nat.le_of_ble_eq_true rfl)⟩ rfl hl.1 rfl (Nat.le_of_ble_eq_true rfl) dX9_begin_23 ⟨(Nat.le_of_ble_eq_true rfl), (Nat.le_of_ble_eq_true rfl)⟩) (kx_no rfl) (fun r43 u42 H locs hp41 G => ?_)
      obtain ⟨zr, eu42⟩ := hp41
      replace zr := Eq.symm zr
      subst zr
      rw [eu42] at G
      have J46 : ∀ (y45 : Int32) (_ : y45 = (X9_begin_x0 fst)) (H : Heap) (locs : List Loc) (ls : Array Slot), hG D (hA f sz) f s9 H locs → lv_has ls 4 [(0, .ref m), (1, .int ovs), (2, .int ech), (3, .int fst)] → W p9 l e9 ({ frames := 3, cells := 0, slots := 0, locals := 70 } : Room) s9 m9 ([.ref m, .int ovs, .int ech, .int fst] : List Value).toArray b9 t9 c9 H locs 0 0 (vx_MQ b9 (hQi (fun r u => r = (X9_begin_r3 ovs ech fst) ∧ u m = some (.inr (11, [.int (X9_begin_x2 ovs ech fst), .int c_re, .ref v, .ref im, .ref kp, .ref pa, .ref de, .ref ide, .int (X9_begin_x4 c_un ovs ech fst), .int c_hi, .ref tx, .int c_tn, .int c_fa, .int c_rf, .ref pt, .int c_ps, .int c_pl, .int c_to, .ref so, .ref mo, .ref wh, .ref pf])) ∧ u v = some (.inl (cy 0, 6441, .inl (X9_begin_g5 g ovs ech fst))) ∧ hFrL f u [m, v]) D f sz) (hPx hNo D f sz) ([.ref m, .int ovs, .int ech, .int fst] : List Value).toArray s9 0 0 (hA f sz)) (F0 m9 34 ls [.int y45, .ref m]) := by
        intro y45 ey45 H locs ls G hl
        replace ey45 := Eq.symm ey45
        subst ey45
        exact J39 (X9_begin_x0 fst) (by rw [X9_begin_x1, if_neg c37]) _ _ _ G (lv_sub hl [0, 1, 2, 3] rfl)
      refine lv_if_eq (tgt := 33) hx hb dX9_begin_26 (by decide) (fun c44 => ?_) (fun c44 => ?_)
      · refine lv_iconst (v := 1) hx hb dX9_begin_33 (by decide) ?_
        exact J46 1 (by rw [X9_begin_x0, if_pos c44]) _ _ _ G (lv_sub hl [0, 1, 2, 3] rfl)
      · refine lv_iconst (v := 0) hx hb dX9_begin_29 (by decide) ?_
        refine lv_goto (tgt := 34) hx hb dX9_begin_30 (by decide) ?_
        exact J46 0 (by rw [X9_begin_x0, if_neg c44]) _ _ _ G (lv_sub hl [0, 1, 2, 3] rfl)
