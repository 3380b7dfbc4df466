theorem mcn_X9_161 : Cond.constant RX9 161 45087 ∈ lw_tbl := hin6 (List.mem_of_getElem? (i := 160) rfl)
def shf (g : Nat → Int32) (n : Nat) : Nat → Int32 := fun j => if j < n then g (j + 6441) else g j
theorem shf_0 (g : Nat → Int32) : shf g 0 = g := by funext j; simp [shf]
theorem shf_s (g : Nat → Int32) (n : Nat) : upd (shf g n) n ((shf g n) (n + 6441)) = shf g (n + 1) := by
  funext j
  by_cases h : j = n
  · subst h; simp only [upd, shf, if_true]; rw [if_neg (by omega), if_pos (by omega)]
  · simp only [upd, shf, if_neg h]
    by_cases h2 : j < n
    · rw [if_pos h2, if_pos (by omega)]
    · rw [if_neg h2, if_neg (by omega)]
def cpo (g : Nat → Int32) (o : Nat) (s : Nat → Int32) (n : Nat) : Nat → Int32 := fun j => if o ≤ j ∧ j < o + n then s (j - o) else g j
theorem cpo_0 (g : Nat → Int32) (o : Nat) (s : Nat → Int32) : cpo g o s 0 = g := by funext j; simp only [cpo]; rw [if_neg (by omega)]
theorem cpo_s (g : Nat → Int32) (o : Nat) (s : Nat → Int32) (n : Nat) : upd (cpo g o s n) (o + n) (s n) = cpo g o s (n + 1) := by
  funext j
  by_cases h : j = o + n
  · subst h; simp only [upd, cpo, if_true]; rw [if_pos (by omega), show o + n - o = n by omega]
  · simp only [upd, cpo, if_neg h]
    by_cases h2 : o ≤ j ∧ j < o + n
    · rw [if_pos h2, if_pos (by omega)]
    · rw [if_neg h2, if_neg (by omega)]
def kpG (gp gr : Nat → Int32) (un : Nat) : Nat → Int32 := if un = 8 then cpo (shf gp 45087) 45087 gr 6441 else cpo gp (un * 6441) gr 6441
def kpN (un : Nat) : Nat := if un = 8 then 8 else un + 1
def X9_keepsL_g0 (gp : Nat → Int32) (gr : Nat → Int32) (un : Nat) : Nat → Int32 := cpo gp (un * 6441) gr 6441
set_option maxRecDepth 100000 in
theorem k_X9_keepsL {l : Launch} (hfl : l.stackTraces = false) {D : va_G} {cy : Nat → ClassId} {f : Hf} {sz : Nat} {m : Nat} {v : Nat} {im : Nat} {kp : Nat} {pa : Nat} {de : Nat} {ide : Nat} {tx : Nat} {pt : Nat} {so : Nat} {mo : Nat} {wh : Nat} {pf : Nat} {c_th : Int32} {c_re : Int32} {c_hi : Int32} {c_tn : Int32} {c_fa : Int32} {c_rf : Int32} {c_ps : Int32} {c_pl : Int32} {c_to : Int32} {gp : Nat → Int32} {row : Nat} {gr : Nat → Int32} {un : Nat} (h_m : f m = some (.inr (11, [.int c_th, .int c_re, .ref v, .ref im, .ref kp, .ref pa, .ref de, .ref ide, .int (nI un), .int c_hi, .ref tx, .int c_tn, .int c_fa, .int c_rf, .ref pt, .int c_ps, .int c_pl, .int c_to, .ref so, .ref mo, .ref wh, .ref pf]))) (h_pa : f pa = some (.inl (cy 0, 51528, .inl gp))) (h_row : f row = some (.inl (cy 0, 6441, .inl gr))) (hun : un < 8) : hMet l yX9_keeps cX9_keeps 3 none { frames := 0, cells := 0, slots := 0, locals := 0 } D (hTy cy) f sz [.ref m, .ref row] (hQv (fun u => u pa = some (.inl (cy 0, 51528, .inl (X9_keepsL_g0 gp gr un))) ∧ u m = some (.inr (11, [.int c_th, .int c_re, .ref v, .ref im, .ref kp, .ref pa, .ref de, .ref ide, .int (nI (un + 1)), .int c_hi, .ref tx, .int c_tn, .int c_fa, .int c_rf, .ref pt, .int c_ps, .int c_pl, .int c_to, .ref so, .ref mo, .ref wh, .ref pf])) ∧ hFrL f u [pa, m]) D f sz) hNo := by
  refine h_enter (by decide) hfl (Nat.le_of_ble_eq_true rfl) ?_
  intro p9 e9 s9 m9 b9 t9 c9 hsz C0 hr hnm G ls hl
  have hx := C0.1.1
  have hb := C0.1.2.1
  have hl : lv_has ls 3 [(0, .ref m), (1, .ref row)] := hl
  refine lv_aload_n hx hb dX9_keeps_0 rfl (lv_at hl 0 rfl) ?_
  refine g_get C0 G h_m rfl hiX9 8 (by decide) mf_X9_84 rfl dX9_keeps_1 ?_
  refine lv_bipush (v := 8) hx hb dX9_keeps_4 (by decide) ?_
  refine lv_icmp_ne (tgt := 49) hx hb dX9_keeps_6 (by decide) (fun _ => ?_) (fun c11 => absurd c11 (fun q => absurd ((nI_eq (a := un) (b := 8) (by omega) (by omega)).mp q) (by omega)))
  refine lv_iconst (v := 0) hx hb dX9_keeps_49 (by decide) ?_
  refine lv_istore_n (lv' := [(2, .int 0), (0, .ref m), (1, .ref row)]) hx hb dX9_keeps_50 rfl hl (by decide) rfl (fun ls hl => ?_)
  refine W.widen (k := 0) (n := 0) (Nat.le_of_ble_eq_true rfl) (Nat.le_of_ble_eq_true rfl) ?_
  have LOOP51 : ∀ (kb : Nat) (jj : Nat) (f1b : Hf) (H : Heap) (locs : List Loc) (ls : Array Slot), (jj ≤ 6441) → (6441 - jj < kb) → f1b pa = some (.inl (cy 0, 51528, .inl (cpo gp (un * 6441) gr jj))) → hFrL f f1b [pa] → hG D (hA f sz) f1b s9 H locs → lv_has ls 3 [(2, .int (nI jj)), (0, .ref m), (1, .ref row)] → W p9 l e9 ({ frames := 0, cells := 0, slots := 0, locals := 0 } : Room) s9 m9 ([.ref m, .ref row] : List Value).toArray b9 t9 c9 H locs 0 0 (vx_MQ b9 (hQv (fun u => u pa = some (.inl (cy 0, 51528, .inl (X9_keepsL_g0 gp gr un))) ∧ u m = some (.inr (11, [.int c_th, .int c_re, .ref v, .ref im, .ref kp, .ref pa, .ref de, .ref ide, .int (nI (un + 1)), .int c_hi, .ref tx, .int c_tn, .int c_fa, .int c_rf, .ref pt, .int c_ps, .int c_pl, .int c_to, .ref so, .ref mo, .ref wh, .ref pf])) ∧ hFrL f u [pa, m]) D f sz) (hPx hNo D f sz) ([.ref m, .ref row] : List Value).toArray s9 0 0 (hA f sz)) (F0 m9 51 ls []) := by
    intro kb
    induction kb with
    | zero =>
      intro jj f1b H locs ls hi2b hkb h_pa1b hfrb G hl
      exact absurd hkb (by omega)
    | succ kb ihb =>
      intro jj f1b H locs ls hi2b hkb h_pa1b hfrb G hl
      refine lv_iload_n hx hb dX9_keeps_51 rfl (lv_at hl 0 rfl) ?_
      refine lv_sipush (v := 6441) hx hb dX9_keeps_52 (by decide) ?_
      refine lv_icmp_ge (tgt := 82) hx hb dX9_keeps_55 (by decide) (fun c12 => ?_) (fun c12 => ?_)
      · have n13 : 6441 ≤ jj := (nI_leI (a := 6441) (b := jj) (by omega) (by omega)).mp c12
        have hi9 : 6441 = jj := by omega
        subst hi9
        refine lv_aload_n hx hb dX9_keeps_82 rfl (lv_at hl 1 rfl) ?_
        refine lv_dup hx hb dX9_keeps_83 rfl ?_
        have k14 : f1b m = some (.inr (11, [.int c_th, .int c_re, .ref v, .ref im, .ref kp, .ref pa, .ref de, .ref ide, .int (nI un), .int c_hi, .ref tx, .int c_tn, .int c_fa, .int c_rf, .ref pt, .int c_ps, .int c_pl, .int c_to, .ref so, .ref mo, .ref wh, .ref pf])) := hfrb _ _ (by simp only [List.mem_cons, List.not_mem_nil, or_false]; intro q; exact (hne h_m h_pa (by intro q; cases q)) q) h_m
        refine g_get C0 G k14 rfl hiX9 8 (by decide) mf_X9_84 rfl dX9_keeps_84 ?_
        refine lv_iconst (v := 1) hx hb dX9_keeps_87 (by decide) ?_
        refine lv_iadd hx hb dX9_keeps_88 ?_
        refine lv_topv (v := nI (un + 1)) ((nI_add _ _)) ?_
        refine g_put C0 G k14 rfl hiX9 tyX9 tyX9_ok nmX9 8 (by decide) mf_X9_84 rfl rfl rfl rfl (Nat.le_of_ble_eq_true rfl) dX9_keeps_89 (fun H locs f15 hf15 G => ?_)
        have k16 : f15 m = some (.inr (11, [.int c_th, .int c_re, .ref v, .ref im, .ref kp, .ref pa, .ref de, .ref ide, .int (nI (un + 1)), .int c_hi, .ref tx, .int c_tn, .int c_fa, .int c_rf, .ref pt, .int c_ps, .int c_pl, .int c_to, .ref so, .ref mo, .ref wh, .ref pf])) := hus hf15
        have k17 : f15 pa = some (.inl (cy 0, 51528, .inl (cpo gp (un * 6441) gr 6441))) := hup hf15 (hne h_pa1b k14 (by intro q; cases q)) h_pa1b
        exact g_vret C0 G hr dX9_keeps_92 (Nat.le_of_ble_eq_true rfl) (Nat.le_of_ble_eq_true rfl) (by exact ⟨(by rw [(by rw [X9_keepsL_g0] : (X9_keepsL_g0 gp gr un) = (cpo gp (un * 6441) gr 6441))]; exact k17), k16, (fun a9 e9 h7 h8 => hup hf15 (fun q => h7 (by rw [q]; simp)) (hfrb _ _ (fun q => h7 (by simp only [List.mem_cons, List.not_mem_nil, or_false] at q ⊢; first | exact q | (rcases q with q <;> simp [q]) | omega)) (h8)))⟩)
      · have n18 : ¬ 6441 ≤ jj := fun q => c12 ((nI_leI (a := 6441) (b := jj) (by omega) (by omega)).mpr q)
        refine lv_aload_n hx hb dX9_keeps_58 rfl (lv_at hl 1 rfl) ?_
        have k19 : f1b m = some (.inr (11, [.int c_th, .int c_re, .ref v, .ref im, .ref kp, .ref pa, .ref de, .ref ide, .int (nI un), .int c_hi, .ref tx, .int c_tn, .int c_fa, .int c_rf, .ref pt, .int c_ps, .int c_pl, .int c_to, .ref so, .ref mo, .ref wh, .ref pf])) := hfrb _ _ (by simp only [List.mem_cons, List.not_mem_nil, or_false]; intro q; exact (hne h_m h_pa (by intro q; cases q)) q) h_m
        refine g_get C0 G k19 rfl hiX9 5 (by decide) mf_X9_20 rfl dX9_keeps_59 ?_
        refine lv_aload_n hx hb dX9_keeps_62 rfl (lv_at hl 1 rfl) ?_
        refine g_get C0 G k19 rfl hiX9 8 (by decide) mf_X9_84 rfl dX9_keeps_63 ?_
        refine lv_sipush (v := 6441) hx hb dX9_keeps_66 (by decide) ?_
        refine lv_imul hx hb dX9_keeps_69 ?_
        refine lv_topv (v := nI (un * 6441)) ((pk_mul _ _)) ?_
        refine lv_iload_n hx hb dX9_keeps_70 rfl (lv_at hl 0 rfl) ?_
        refine lv_iadd hx hb dX9_keeps_71 ?_
        refine lv_topv (v := nI (un * 6441 + jj)) ((nI_add _ _)) ?_
        refine lv_aload_n hx hb dX9_keeps_72 rfl (lv_at hl 2 rfl) ?_
        refine lv_iload_n hx hb dX9_keeps_73 rfl (lv_at hl 0 rfl) ?_
        have k20 : f1b row = some (.inl (cy 0, 6441, .inl gr)) := hfrb _ _ (by simp only [List.mem_cons, List.not_mem_nil, or_false]; intro q; exact (hne h_row h_pa (by intro q; cases q)) q) h_row
        refine g_iald C0 G k20 0 rfl (vp_in_nI (by omega) (by omega)) dX9_keeps_74 ?_
        refine lv_topv (v := gr jj) (congrArg gr (nI_c (by omega))) ?_
        refine g_iast C0 G h_pa1b 0 rfl (vp_in_nI (by omega) (by omega)) dX9_keeps_75 (fun H locs f21 hf21 G => ?_)
        have k22 : f21 pa = some (.inl (cy 0, 51528, .inl (upd (cpo gp (un * 6441) gr jj) (nI (un * 6441 + jj)).toNatClampNeg (gr jj)))) := hus hf21
        refine lv_iinc (v := nI (jj + 1)) (lv' := [(2, .int (nI (jj + 1))), (0, .ref m), (1, .ref row)]) hx hb dX9_keeps_76 hl (k := 0) rfl (by exact (nI_add _ _)) (by decide) rfl (fun ls hl => ?_)
        refine lv_goto (tgt := 51) hx hb dX9_keeps_79 (by decide) ?_
        exact ihb (jj + 1) f21 _ _ _ (by omega) (by omega) (by have h9 := k22; rw [nI_c (by omega), cpo_s] at h9; exact h9) (fun a9 e9 h7 h8 => hup hf21 (fun q => h7 (by rw [q]; simp)) (hfrb _ _ (fun q => h7 (by simp only [List.mem_cons, List.not_mem_nil, or_false] at q ⊢; first | exact q | (rcases q with q <;> simp [q]) | omega)) (h8))) G (lv_sub hl [0, 1, 2] rfl)
  exact LOOP51 (6441 + 1) 0 f _ _ _ (by omega) (by omega)  (by rw [cpo_0]; exact h_pa) (fun a9 e9 h7 h8 => h8) G (lv_sub hl [0, 1, 2] rfl)
def X9_keeps8_g0 (gp : Nat → Int32) (gr : Nat → Int32) : Nat → Int32 := cpo (shf gp 45087) 45087 gr 6441
set_option maxRecDepth 100000 in
theorem k_X9_keeps8 {l : Launch} (hfl : l.stackTraces = false) {D : va_G} {cy : Nat → ClassId} {f : Hf} {sz : Nat} {m : Nat} {v : Nat} {im : Nat} {kp : Nat} {pa : Nat} {de : Nat} {ide : Nat} {tx : Nat} {pt : Nat} {so : Nat} {mo : Nat} {wh : Nat} {pf : Nat} {c_th : Int32} {c_re : Int32} {c_hi : Int32} {c_tn : Int32} {c_fa : Int32} {c_rf : Int32} {c_ps : Int32} {c_pl : Int32} {c_to : Int32} {gp : Nat → Int32} {row : Nat} {gr : Nat → Int32} (h_m : f m = some (.inr (11, [.int c_th, .int c_re, .ref v, .ref im, .ref kp, .ref pa, .ref de, .ref ide, .int 8, .int c_hi, .ref tx, .int c_tn, .int c_fa, .int c_rf, .ref pt, .int c_ps, .int c_pl, .int c_to, .ref so, .ref mo, .ref wh, .ref pf]))) (h_pa : f pa = some (.inl (cy 0, 51528, .inl gp))) (h_row : f row = some (.inl (cy 0, 6441, .inl gr)))  : hMet l yX9_keeps cX9_keeps 3 none { frames := 0, cells := 0, slots := 0, locals := 0 } D (hTy cy) f sz [.ref m, .ref row] (hQv (fun u => u pa = some (.inl (cy 0, 51528, .inl (X9_keeps8_g0 gp gr))) ∧ u m = some (.inr (11, [.int c_th, .int c_re, .ref v, .ref im, .ref kp, .ref pa, .ref de, .ref ide, .int 8, .int c_hi, .ref tx, .int c_tn, .int c_fa, .int c_rf, .ref pt, .int c_ps, .int c_pl, .int c_to, .ref so, .ref mo, .ref wh, .ref pf])) ∧ hFrL f u [pa, m]) D f sz) hNo := by
  refine h_enter (by decide) hfl (Nat.le_of_ble_eq_true rfl) ?_
  intro p9 e9 s9 m9 b9 t9 c9 hsz C0 hr hnm G ls hl
  have hx := C0.1.1
  have hb := C0.1.2.1
  have hl : lv_has ls 3 [(0, .ref m), (1, .ref row)] := hl
  refine lv_aload_n hx hb dX9_keeps_0 rfl (lv_at hl 0 rfl) ?_
  refine g_get C0 G h_m rfl hiX9 8 (by decide) mf_X9_84 rfl dX9_keeps_1 ?_
  refine lv_bipush (v := 8) hx hb dX9_keeps_4 (by decide) ?_
  refine lv_icmp_ne (tgt := 49) hx hb dX9_keeps_6 (by decide) (fun c11 => absurd (by decide) c11) (fun _ => ?_)
  refine lv_iconst (v := 0) hx hb dX9_keeps_9 (by decide) ?_
  refine lv_istore_n (lv' := [(2, .int 0), (0, .ref m), (1, .ref row)]) hx hb dX9_keeps_10 rfl hl (by decide) rfl (fun ls hl => ?_)
  refine W.widen (k := 0) (n := 0) (Nat.le_of_ble_eq_true rfl) (Nat.le_of_ble_eq_true rfl) ?_
  have LOOP11 : ∀ (k : Nat) (jj : Nat) (f1 : Hf) (H : Heap) (locs : List Loc) (ls : Array Slot), (jj ≤ 45087) → (45087 - jj < k) → f1 pa = some (.inl (cy 0, 51528, .inl (shf gp jj))) → hFrL f f1 [pa] → hG D (hA f sz) f1 s9 H locs → lv_has ls 3 [(2, .int (nI jj)), (0, .ref m), (1, .ref row)] → W p9 l e9 ({ frames := 0, cells := 0, slots := 0, locals := 0 } : Room) s9 m9 ([.ref m, .ref row] : List Value).toArray b9 t9 c9 H locs 0 0 (vx_MQ b9 (hQv (fun u => u pa = some (.inl (cy 0, 51528, .inl (X9_keeps8_g0 gp gr))) ∧ u m = some (.inr (11, [.int c_th, .int c_re, .ref v, .ref im, .ref kp, .ref pa, .ref de, .ref ide, .int 8, .int c_hi, .ref tx, .int c_tn, .int c_fa, .int c_rf, .ref pt, .int c_ps, .int c_pl, .int c_to, .ref so, .ref mo, .ref wh, .ref pf])) ∧ hFrL f u [pa, m]) D f sz) (hPx hNo D f sz) ([.ref m, .ref row] : List Value).toArray s9 0 0 (hA f sz)) (F0 m9 11 ls []) := by
    intro k
    induction k with
    | zero =>
      intro jj f1 H locs ls hi2 hk h_pa1 hfr G hl
      exact absurd hk (by omega)
    | succ k ih =>
      intro jj f1 H locs ls hi2 hk h_pa1 hfr G hl
      refine lv_iload_n hx hb dX9_keeps_11 rfl (lv_at hl 0 rfl) ?_
      refine lv_ldc (v := 45087) hx hb C0.1.2.2.2.1 (C0.2.2.2.1.1 _ mcn_X9_161 rfl _) dX9_keeps_12 ?_
      refine lv_icmp_ge (tgt := 39) hx hb dX9_keeps_14 (by decide) (fun c12 => ?_) (fun c12 => ?_)
      · have n13 : 45087 ≤ jj := (nI_leI (a := 45087) (b := jj) (by omega) (by omega)).mp c12
        have hi9 : 45087 = jj := by omega
        subst hi9
        refine lv_aload_n hx hb dX9_keeps_39 rfl (lv_at hl 1 rfl) ?_
        refine lv_dup hx hb dX9_keeps_40 rfl ?_
        have k14 : f1 m = some (.inr (11, [.int c_th, .int c_re, .ref v, .ref im, .ref kp, .ref pa, .ref de, .ref ide, .int 8, .int c_hi, .ref tx, .int c_tn, .int c_fa, .int c_rf, .ref pt, .int c_ps, .int c_pl, .int c_to, .ref so, .ref mo, .ref wh, .ref pf])) := hfr _ _ (by simp only [List.mem_cons, List.not_mem_nil, or_false]; intro q; exact (hne h_m h_pa (by intro q; cases q)) q) h_m
        refine g_get C0 G k14 rfl hiX9 8 (by decide) mf_X9_84 rfl dX9_keeps_41 ?_
        refine lv_iconst (v := 1) hx hb dX9_keeps_44 (by decide) ?_
        refine lv_isub hx hb dX9_keeps_45 ?_
        refine lv_topv (v := 7) (by decide) ?_
        refine g_put C0 G k14 rfl hiX9 tyX9 tyX9_ok nmX9 8 (by decide) mf_X9_84 rfl rfl rfl rfl (Nat.le_of_ble_eq_true rfl) dX9_keeps_46 (fun H locs f15 hf15 G => ?_)
        have k16 : f15 m = some (.inr (11, [.int c_th, .int c_re, .ref v, .ref im, .ref kp, .ref pa, .ref de, .ref ide, .int 7, .int c_hi, .ref tx, .int c_tn, .int c_fa, .int c_rf, .ref pt, .int c_ps, .int c_pl, .int c_to, .ref so, .ref mo, .ref wh, .ref pf])) := hus hf15
        refine lv_iconst (v := 0) hx hb dX9_keeps_49 (by decide) ?_
        refine lv_istore_n (lv' := [(2, .int 0), (0, .ref m), (1, .ref row)]) hx hb dX9_keeps_50 rfl hl (by decide) rfl (fun ls hl => ?_)
        have k17 : f15 pa = some (.inl (cy 0, 51528, .inl (shf gp 45087))) := hup hf15 (hne h_pa1 k14 (by intro q; cases q)) h_pa1
        refine W.widen (k := 0) (n := 0) (Nat.le_of_ble_eq_true rfl) (Nat.le_of_ble_eq_true rfl) ?_
        have LOOP51 : ∀ (kb : Nat) (jj : Nat) (f1b : Hf) (H : Heap) (locs : List Loc) (ls : Array Slot), (jj ≤ 6441) → (6441 - jj < kb) → f1b pa = some (.inl (cy 0, 51528, .inl (cpo (shf gp 45087) 45087 gr jj))) → hFrL f15 f1b [pa] → hG D (hA f sz) f1b s9 H locs → lv_has ls 3 [(2, .int (nI jj)), (0, .ref m), (1, .ref row)] → W p9 l e9 ({ frames := 0, cells := 0, slots := 0, locals := 0 } : Room) s9 m9 ([.ref m, .ref row] : List Value).toArray b9 t9 c9 H locs 0 0 (vx_MQ b9 (hQv (fun u => u pa = some (.inl (cy 0, 51528, .inl (X9_keeps8_g0 gp gr))) ∧ u m = some (.inr (11, [.int c_th, .int c_re, .ref v, .ref im, .ref kp, .ref pa, .ref de, .ref ide, .int 8, .int c_hi, .ref tx, .int c_tn, .int c_fa, .int c_rf, .ref pt, .int c_ps, .int c_pl, .int c_to, .ref so, .ref mo, .ref wh, .ref pf])) ∧ hFrL f u [pa, m]) D f sz) (hPx hNo D f sz) ([.ref m, .ref row] : List Value).toArray s9 0 0 (hA f sz)) (F0 m9 51 ls []) := by
          intro kb
          induction kb with
          | zero =>
            intro jj f1b H locs ls hi2b hkb h_pa1b hfrb G hl
            exact absurd hkb (by omega)
          | succ kb ihb =>
            intro jj f1b H locs ls hi2b hkb h_pa1b hfrb G hl
            refine lv_iload_n hx hb dX9_keeps_51 rfl (lv_at hl 0 rfl) ?_
            refine lv_sipush (v := 6441) hx hb dX9_keeps_52 (by decide) ?_
            refine lv_icmp_ge (tgt := 82) hx hb dX9_keeps_55 (by decide) (fun c18 => ?_) (fun c18 => ?_)
            · have n19 : 6441 ≤ jj := (nI_leI (a := 6441) (b := jj) (by omega) (by omega)).mp c18
              have hi9 : 6441 = jj := by omega
              subst hi9
              refine lv_aload_n hx hb dX9_keeps_82 rfl (lv_at hl 1 rfl) ?_
              refine lv_dup hx hb dX9_keeps_83 rfl ?_
              have k20 : f1b m = some (.inr (11, [.int c_th, .int c_re, .ref v, .ref im, .ref kp, .ref pa, .ref de, .ref ide, .int 7, .int c_hi, .ref tx, .int c_tn, .int c_fa, .int c_rf, .ref pt, .int c_ps, .int c_pl, .int c_to, .ref so, .ref mo, .ref wh, .ref pf])) := hfrb _ _ (by simp only [List.mem_cons, List.not_mem_nil, or_false]; intro q; exact (hne k16 k17 (by intro q; cases q)) q) k16
              refine g_get C0 G k20 rfl hiX9 8 (by decide) mf_X9_84 rfl dX9_keeps_84 ?_
              refine lv_iconst (v := 1) hx hb dX9_keeps_87 (by decide) ?_
              refine lv_iadd hx hb dX9_keeps_88 ?_
              refine lv_topv (v := 8) (by decide) ?_
              refine g_put C0 G k20 rfl hiX9 tyX9 tyX9_ok nmX9 8 (by decide) mf_X9_84 rfl rfl rfl rfl (Nat.le_of_ble_eq_true rfl) dX9_keeps_89 (fun H locs f21 hf21 G => ?_)
              have k22 : f21 m = some (.inr (11, [.int c_th, .int c_re, .ref v, .ref im, .ref kp, .ref pa, .ref de, .ref ide, .int 8, .int c_hi, .ref tx, .int c_tn, .int c_fa, .int c_rf, .ref pt, .int c_ps, .int c_pl, .int c_to, .ref so, .ref mo, .ref wh, .ref pf])) := hus hf21
              have k23 : f21 pa = some (.inl (cy 0, 51528, .inl (cpo (shf gp 45087) 45087 gr 6441))) := hup hf21 (hne h_pa1b k20 (by intro q; cases q)) h_pa1b
              exact g_vret C0 G hr dX9_keeps_92 (Nat.le_of_ble_eq_true rfl) (Nat.le_of_ble_eq_true rfl) (by exact ⟨(by rw [(by rw [X9_keeps8_g0] : (X9_keeps8_g0 gp gr) = (cpo (shf gp 45087) 45087 gr 6441))]; exact k23), k22, (fun a9 e9 h7 h8 => hup hf21 (fun q => h7 (by rw [q]; simp)) (hfrb _ _ (fun q => h7 (by simp only [List.mem_cons, List.not_mem_nil, or_false] at q ⊢; first | exact q | (rcases q with q <;> simp [q]) | omega)) (hup hf15 (fun q => h7 (by rw [q]; simp)) (hfr _ _ (fun q => h7 (by simp only [List.mem_cons, List.not_mem_nil, or_false] at q ⊢; first | exact q | (rcases q with q <;> simp [q]) | omega)) (h8)))))⟩)
            · have n24 : ¬ 6441 ≤ jj := fun q => c18 ((nI_leI (a := 6441) (b := jj) (by omega) (by omega)).mpr q)
              refine lv_aload_n hx hb dX9_keeps_58 rfl (lv_at hl 1 rfl) ?_
              have k25 : f1b m = some (.inr (11, [.int c_th, .int c_re, .ref v, .ref im, .ref kp, .ref pa, .ref de, .ref ide, .int 7, .int c_hi, .ref tx, .int c_tn, .int c_fa, .int c_rf, .ref pt, .int c_ps, .int c_pl, .int c_to, .ref so, .ref mo, .ref wh, .ref pf])) := hfrb _ _ (by simp only [List.mem_cons, List.not_mem_nil, or_false]; intro q; exact (hne k16 k17 (by intro q; cases q)) q) k16
              refine g_get C0 G k25 rfl hiX9 5 (by decide) mf_X9_20 rfl dX9_keeps_59 ?_
              refine lv_aload_n hx hb dX9_keeps_62 rfl (lv_at hl 1 rfl) ?_
              refine g_get C0 G k25 rfl hiX9 8 (by decide) mf_X9_84 rfl dX9_keeps_63 ?_
              refine lv_sipush (v := 6441) hx hb dX9_keeps_66 (by decide) ?_
              refine lv_imul hx hb dX9_keeps_69 ?_
              refine lv_topv (v := 45087) (by decide) ?_
              refine lv_iload_n hx hb dX9_keeps_70 rfl (lv_at hl 0 rfl) ?_
              refine lv_iadd hx hb dX9_keeps_71 ?_
              refine lv_topv (v := nI (45087 + jj)) ((nI_add _ _)) ?_
              refine lv_aload_n hx hb dX9_keeps_72 rfl (lv_at hl 2 rfl) ?_
              refine lv_iload_n hx hb dX9_keeps_73 rfl (lv_at hl 0 rfl) ?_
              have k26 : f1b row = some (.inl (cy 0, 6441, .inl gr)) := hfrb _ _ (by simp only [List.mem_cons, List.not_mem_nil, or_false]; intro q; exact (hne (hup hf15 (hne (hfr _ _ (by simp only [List.mem_cons, List.not_mem_nil, or_false]; intro q; exact (hne h_row h_pa (by intro q; cases q)) q) h_row) k14 (by intro q; cases q)) (hfr _ _ (by simp only [List.mem_cons, List.not_mem_nil, or_false]; intro q; exact (hne h_row h_pa (by intro q; cases q)) q) h_row)) k17 (by intro q; cases q)) q) (hup hf15 (hne (hfr _ _ (by simp only [List.mem_cons, List.not_mem_nil, or_false]; intro q; exact (hne h_row h_pa (by intro q; cases q)) q) h_row) k14 (by intro q; cases q)) (hfr _ _ (by simp only [List.mem_cons, List.not_mem_nil, or_false]; intro q; exact (hne h_row h_pa (by intro q; cases q)) q) h_row))
              refine g_iald C0 G k26 0 rfl (vp_in_nI (by omega) (by omega)) dX9_keeps_74 ?_
              refine lv_topv (v := gr jj) (congrArg gr (nI_c (by omega))) ?_
              refine g_iast C0 G h_pa1b 0 rfl (vp_in_nI (by omega) (by omega)) dX9_keeps_75 (fun H locs f27 hf27 G => ?_)
              have k28 : f27 pa = some (.inl (cy 0, 51528, .inl (upd (cpo (shf gp 45087) 45087 gr jj) (nI (45087 + jj)).toNatClampNeg (gr jj)))) := hus hf27
              refine lv_iinc (v := nI (jj + 1)) (lv' := [(2, .int (nI (jj + 1))), (0, .ref m), (1, .ref row)]) hx hb dX9_keeps_76 hl (k := 0) rfl (by exact (nI_add _ _)) (by decide) rfl (fun ls hl => ?_)
              refine lv_goto (tgt := 51) hx hb dX9_keeps_79 (by decide) ?_
              exact ihb (jj + 1) f27 _ _ _ (by omega) (by omega) (by have h9 := k28; rw [nI_c (by omega), cpo_s] at h9; exact h9) (fun a9 e9 h7 h8 => hup hf27 (fun q => h7 (by rw [q]; simp)) (hfrb _ _ (fun q => h7 (by simp only [List.mem_cons, List.not_mem_nil, or_false] at q ⊢; first | exact q | (rcases q with q <;> simp [q]) | omega)) (h8))) G (lv_sub hl [0, 1, 2] rfl)
        exact LOOP51 (6441 + 1) 0 f15 _ _ _ (by omega) (by omega)  (by rw [cpo_0]; exact k17) (fun a9 e9 h7 h8 => h8) G (lv_sub hl [0, 1, 2] rfl)
      · have n30 : ¬ 45087 ≤ jj := fun q => c12 ((nI_leI (a := 45087) (b := jj) (by omega) (by omega)).mpr q)
        refine lv_aload_n hx hb dX9_keeps_17 rfl (lv_at hl 1 rfl) ?_
        have k31 : f1 m = some (.inr (11, [.int c_th, .int c_re, .ref v, .ref im, .ref kp, .ref pa, .ref de, .ref ide, .int 8, .int c_hi, .ref tx, .int c_tn, .int c_fa, .int c_rf, .ref pt, .int c_ps, .int c_pl, .int c_to, .ref so, .ref mo, .ref wh, .ref pf])) := hfr _ _ (by simp only [List.mem_cons, List.not_mem_nil, or_false]; intro q; exact (hne h_m h_pa (by intro q; cases q)) q) h_m
        refine g_get C0 G k31 rfl hiX9 5 (by decide) mf_X9_20 rfl dX9_keeps_18 ?_
        refine lv_iload_n hx hb dX9_keeps_21 rfl (lv_at hl 0 rfl) ?_
        refine lv_aload_n hx hb dX9_keeps_22 rfl (lv_at hl 1 rfl) ?_
        refine g_get C0 G k31 rfl hiX9 5 (by decide) mf_X9_20 rfl dX9_keeps_23 ?_
        refine lv_iload_n hx hb dX9_keeps_26 rfl (lv_at hl 0 rfl) ?_
        refine lv_sipush (v := 6441) hx hb dX9_keeps_27 (by decide) ?_
        refine lv_iadd hx hb dX9_keeps_30 ?_
        refine lv_topv (v := nI (jj + 6441)) ((nI_add _ _)) ?_
        refine g_iald C0 G h_pa1 0 rfl (vp_in_nI (by omega) (by omega)) dX9_keeps_31 ?_
        refine lv_topv (v := (shf gp jj) (jj + 6441)) (congrArg (shf gp jj) (nI_c (by omega))) ?_
        refine g_iast C0 G h_pa1 0 rfl (vp_in_nI (by omega) (by omega)) dX9_keeps_32 (fun H locs f32 hf32 G => ?_)
        have k33 : f32 pa = some (.inl (cy 0, 51528, .inl (upd (shf gp jj) (nI jj).toNatClampNeg ((shf gp jj) (jj + 6441))))) := hus hf32
        refine lv_iinc (v := nI (jj + 1)) (lv' := [(2, .int (nI (jj + 1))), (0, .ref m), (1, .ref row)]) hx hb dX9_keeps_33 hl (k := 0) rfl (by exact (nI_add _ _)) (by decide) rfl (fun ls hl => ?_)
        refine lv_goto (tgt := 11) hx hb dX9_keeps_36 (by decide) ?_
        exact ih (jj + 1) f32 _ _ _ (by omega) (by omega) (by have h9 := k33; rw [nI_c (by omega), shf_s] at h9; exact h9) (fun a9 e9 h7 h8 => hup hf32 (fun q => h7 (by rw [q]; simp)) (hfr _ _ (fun q => h7 (by simp only [List.mem_cons, List.not_mem_nil, or_false] at q ⊢; first | exact q | (rcases q with q <;> simp [q]) | omega)) (h8))) G (lv_sub hl [0, 1, 2] rfl)
  exact LOOP11 (45087 + 1) 0 f _ _ _ (by omega) (by omega)  (by rw [shf_0]; exact h_pa) (fun a9 e9 h7 h8 => h8) G (lv_sub hl [0, 1, 2] rfl)
theorem k_X9_keepsU {l : Launch} (hfl : l.stackTraces = false) {D : va_G} {cy : Nat → ClassId} {f : Hf} {sz : Nat} {m : Nat} {v : Nat} {im : Nat} {kp : Nat} {pa : Nat} {de : Nat} {ide : Nat} {tx : Nat} {pt : Nat} {so : Nat} {mo : Nat} {wh : Nat} {pf : Nat} {row : Nat} {un : Nat} {c_th : Int32} {c_re : Int32} {c_hi : Int32} {c_tn : Int32} {c_fa : Int32} {c_rf : Int32} {c_ps : Int32} {c_pl : Int32} {c_to : Int32} {gp gr : Nat → Int32} (h_m : f m = some (.inr (11, [.int c_th, .int c_re, .ref v, .ref im, .ref kp, .ref pa, .ref de, .ref ide, .int (nI un), .int c_hi, .ref tx, .int c_tn, .int c_fa, .int c_rf, .ref pt, .int c_ps, .int c_pl, .int c_to, .ref so, .ref mo, .ref wh, .ref pf]))) (h_pa : f pa = some (.inl (cy 0, 51528, .inl gp))) (h_row : f row = some (.inl (cy 0, 6441, .inl gr))) (hun : un < 9) : hMet l yX9_keeps cX9_keeps 3 none { frames := 0, cells := 0, slots := 0, locals := 0 } D (hTy cy) f sz [.ref m, .ref row] (hQv (fun u => u pa = some (.inl (cy 0, 51528, .inl (kpG gp gr un))) ∧ u m = some (.inr (11, [.int c_th, .int c_re, .ref v, .ref im, .ref kp, .ref pa, .ref de, .ref ide, .int (nI (kpN un)), .int c_hi, .ref tx, .int c_tn, .int c_fa, .int c_rf, .ref pt, .int c_ps, .int c_pl, .int c_to, .ref so, .ref mo, .ref wh, .ref pf])) ∧ hFrL f u [pa, m]) D f sz) hNo := by
  by_cases h8 : un = 8
  · subst h8
    have K := h_mono (rm2 := { frames := 0, cells := 0, slots := 0, locals := 0 }) (k_X9_keeps8 hfl (D := D) (sz := sz) h_m h_pa h_row) (Nat.le_of_ble_eq_true rfl) (Nat.le_of_ble_eq_true rfl) (Nat.le_of_ble_eq_true rfl) (Nat.le_of_ble_eq_true rfl)
    exact K
  · have K := h_mono (rm2 := { frames := 0, cells := 0, slots := 0, locals := 0 }) (k_X9_keepsL hfl (D := D) (sz := sz) h_m h_pa h_row (by omega)) (Nat.le_of_ble_eq_true rfl) (Nat.le_of_ble_eq_true rfl) (Nat.le_of_ble_eq_true rfl) (Nat.le_of_ble_eq_true rfl)
    rw [show kpG gp gr un = (X9_keepsL_g0 gp gr un) from by unfold kpG; rw [if_neg h8]; rfl, show kpN un = un + 1 from by unfold kpN; rw [if_neg h8]]
    exact K
