theorem c53 {k : Nat} (h : k < 53) : k = 0 ∨ k = 1 ∨ k = 2 ∨ k = 3 ∨ k = 4 ∨ k = 5 ∨ k = 6 ∨ k = 7 ∨ k = 8 ∨ k = 9 ∨ k = 10 ∨ k = 11 ∨ k = 12 ∨ k = 13 ∨ k = 14 ∨ k = 15 ∨ k = 16 ∨ k = 17 ∨ k = 18 ∨ k = 19 ∨ k = 20 ∨ k = 21 ∨ k = 22 ∨ k = 23 ∨ k = 24 ∨ k = 25 ∨ k = 26 ∨ k = 27 ∨ k = 28 ∨ k = 29 ∨ k = 30 ∨ k = 31 ∨ k = 32 ∨ k = 33 ∨ k = 34 ∨ k = 35 ∨ k = 36 ∨ k = 37 ∨ k = 38 ∨ k = 39 ∨ k = 40 ∨ k = 41 ∨ k = 42 ∨ k = 43 ∨ k = 44 ∨ k = 45 ∨ k = 46 ∨ k = 47 ∨ k = 48 ∨ k = 49 ∨ k = 50 ∨ k = 51 ∨ k = 52 := by omega
theorem c54 {k : Nat} (h : k < 54) : k = 0 ∨ k = 1 ∨ k = 2 ∨ k = 3 ∨ k = 4 ∨ k = 5 ∨ k = 6 ∨ k = 7 ∨ k = 8 ∨ k = 9 ∨ k = 10 ∨ k = 11 ∨ k = 12 ∨ k = 13 ∨ k = 14 ∨ k = 15 ∨ k = 16 ∨ k = 17 ∨ k = 18 ∨ k = 19 ∨ k = 20 ∨ k = 21 ∨ k = 22 ∨ k = 23 ∨ k = 24 ∨ k = 25 ∨ k = 26 ∨ k = 27 ∨ k = 28 ∨ k = 29 ∨ k = 30 ∨ k = 31 ∨ k = 32 ∨ k = 33 ∨ k = 34 ∨ k = 35 ∨ k = 36 ∨ k = 37 ∨ k = 38 ∨ k = 39 ∨ k = 40 ∨ k = 41 ∨ k = 42 ∨ k = 43 ∨ k = 44 ∨ k = 45 ∨ k = 46 ∨ k = 47 ∨ k = 48 ∨ k = 49 ∨ k = 50 ∨ k = 51 ∨ k = 52 ∨ k = 53 := by omega
def mkA (L : List Nat) (z : Nat) (k : Nat) : Nat := L.getD k (z + k)
theorem mcn_X9_19 : Cond.constant RX9 19 51528 ∈ lw_tbl := hin6 (List.mem_of_getElem? (i := 10) rfl)
theorem mkA_mono (L : List Nat) (z : Nat) (h1 : ∀ k, k + 1 < L.length → L.getD k 0 < L.getD (k + 1) 0) (h2 : ∀ k, k < L.length → L.getD k 0 ≤ z) (h3 : 0 < L.length) (k : Nat) : mkA L z k < mkA L z (k + 1) := by
  have hd : ∀ j d, j < L.length → L.getD j d = L.getD j 0 := fun j d hj => by
    rw [List.getD_eq_getElem?_getD, List.getD_eq_getElem?_getD, List.getElem?_eq_getElem hj]; rfl
  have ho : ∀ j d, L.length ≤ j → L.getD j d = d := fun j d hj => by
    rw [List.getD_eq_getElem?_getD, List.getElem?_eq_none hj]; rfl
  unfold mkA
  rcases Nat.lt_or_ge (k + 1) L.length with h | h
  · rw [hd k _ (by omega), hd (k + 1) _ h]; exact h1 k h
  · rw [ho (k + 1) _ h]
    rcases Nat.lt_or_ge k L.length with h5 | h5
    · rw [hd k _ h5]; have := h2 k h5; omega
    · rw [ho k _ h5]; omega
theorem mono_lt {a : Nat → Nat} (h : ∀ k, a k < a (k + 1)) : ∀ i j, i < j → a i < a j := by
  intro i j hij
  induction j with
  | zero => exact absurd hij (by omega)
  | succ j ih =>
    rcases Nat.lt_or_ge i j with h5 | h5
    · exact Nat.lt_trans (ih h5) (h j)
    · have h6 : i = j := by omega
      rw [h6]; exact h j
theorem mono_ne {a : Nat → Nat} (h : ∀ k, a k < a (k + 1)) (i j : Nat) (hij : i ≠ j) : a i ≠ a j := by
  rcases Nat.lt_or_gt_of_ne hij with h5 | h5
  · exact Nat.ne_of_lt (mono_lt h _ _ h5)
  · exact Nat.ne_of_gt (mono_lt h _ _ h5)
def iS : Nat → Nat → Nat → Int32
  | _, 6 => fun k => match k with
    | 3 => -1
    | 4 => -1
    | 10 => 1
    | 11 => -1
    | _ => 0
  | _, _ => fun _ => 0
theorem mono_le {a : Nat → Nat} (h : ∀ k, a k < a (k + 1)) {i j : Nat} (hij : i ≤ j) : a i ≤ a j := by
  rcases Nat.lt_or_ge i j with h5 | h5
  · exact Nat.le_of_lt (mono_lt h _ _ h5)
  · have h6 : i = j := by omega
    rw [h6]; exact Nat.le_refl _
def jA (a1 a2 : Nat → Nat) (k : Nat) : Nat := if k < 54 then a1 k else a2 (k - 54)
theorem jA_mono {a1 a2 : Nat → Nat} (h1 : ∀ k, a1 k < a1 (k + 1)) (h2 : ∀ k, a2 k < a2 (k + 1)) (h : a1 53 < a2 0) (k : Nat) : jA a1 a2 k < jA a1 a2 (k + 1) := by
  unfold jA
  rcases Nat.lt_or_ge (k + 1) 54 with h5 | h5
  · rw [if_pos (by omega), if_pos h5]; exact h1 k
  · rw [if_neg (c := k + 1 < 54) (by omega)]
    rcases Nat.lt_or_ge k 54 with h6 | h6
    · have hk : k = 53 := by omega
      rw [if_pos h6, hk]; exact h
    · rw [if_neg (by omega)]
      have e : k + 1 - 54 = k - 54 + 1 := by omega
      rw [e]; exact h2 _
set_option maxRecDepth 100000 in
theorem k_X2_initG {l : Launch} (hfl : l.stackTraces = false) {D : va_G} {cy : Nat → ClassId} {f : Hf} {sz : Nat} {th : Nat} (h_t : f th = some (.inr (4, [.null, .int 0, .int 0, .int 0, .int 0, .int 0]))) : hMet l yX2_init cX2_init 2 none { frames := 3, cells := 53, slots := 17376, locals := 56 } D (hTy cy) f sz [.ref th] (hQv (fun u => ∃ (a : Nat → Nat) (q : Nat → Option Nat), a 0 = th ∧ sz ≤ a 1 ∧ (∀ k, a k < a (k + 1)) ∧ (∀ (A : Nat → Nat) (b : Nat), (∀ k, k < 54 → A (b + k) = a k) → MW A b cy q (fun _ => 0) iS u ∧ HQ A b q) ∧ hFr f u th) D f sz) hNo := by
  refine h_enter (by decide) hfl (Nat.le_of_ble_eq_true rfl) ?_
  intro p9 e9 s9 m9 b9 t9 c9 hsz C0 hr hnm G ls hl
  have hx := C0.1.1
  have hb := C0.1.2.1
  have Gz := G
  have hin : t9.name = "<init>" := hnm
  have hl : lv_has ls 2 [(0, .ref th)] := hl
  refine lv_aload_n hx hb dX2_init_0 rfl (lv_at hl 0 rfl) ?_
  refine W.objInit hx hb C0.1.2.2.2.1 (C0.2.2.2.1.1 _ mm_X2_3 rfl _) (C0.2.2.2.1.1 _ mi_java_lang_Object__init____V rfl _) (C0.2.2.2.1.1 _ mc_objinit rfl _) rfl (by rw [C0.1.2.2.1]; exact hl.1) rfl dX2_init_1 (Nat.le_of_ble_eq_true rfl) (Nat.le_of_ble_eq_true rfl) ?_
  refine W.eq (g2 := F0 m9 4 ls []) rfl ?_
  refine lv_aload_n hx hb dX2_init_4 rfl (lv_at hl 0 rfl) ?_
  refine lv_iconst (v := 4) hx hb dX2_init_5 (by decide) ?_
  have zq11 := G.2.1
  have z13 : th < _ := (G.1 _ _ h_t).1.lt
  refine g_newq C0 G mk_X2_9 (C0.2.2.2.1.2.2.2.1) 3 rfl (n := 4) (N' := 4) (by decide) rfl (Nat.le_of_ble_eq_true rfl) (Nat.le_of_ble_eq_true rfl) (Nat.le_of_ble_eq_true rfl) dX2_init_6 (fun q11 H f12 nq11 hf12 G hzq11 => ?_)
  have k14 : f12 q11 = some (.inl (cy 3, 4, .inr (.inr (.inr (.inr (fun _ => none)))))) := hus hf12
  have k15 : f12 th = some (.inr (4, [.null, .int 0, .int 0, .int 0, .int 0, .int 0])) := hupN hf12 nq11 h_t
  refine g_putF C0 G hin k15 rfl hiX2 tyX2 tyX2_ok nmX2 0 (by decide) mf_X2_11 rfl rfl rfl rfl rfl (Nat.le_of_ble_eq_true rfl) dX2_init_9 (fun H locs f16 hf16 G => ?_)
  have k17 : f16 th = some (.inr (4, [.ref q11, .int 0, .int 0, .int 0, .int 0, .int 0])) := hus hf16
  refine lv_aload_n hx hb dX2_init_12 rfl (lv_at hl 0 rfl) ?_
  refine lv_iconst (v := 0) hx hb dX2_init_13 (by decide) ?_
  refine g_put C0 G k17 rfl hiX2 tyX2 tyX2_ok nmX2 1 (by decide) mf_X2_17 rfl rfl rfl rfl (Nat.le_of_ble_eq_true rfl) dX2_init_14 (fun H locs f18 hf18 G => ?_)
  have k19 : f18 th = some (.inr (4, [.ref q11, .int 0, .int 0, .int 0, .int 0, .int 0])) := hus hf18
  refine lv_aload_n hx hb dX2_init_17 rfl (lv_at hl 0 rfl) ?_
  refine lv_iconst (v := 0) hx hb dX2_init_18 (by decide) ?_
  refine g_put C0 G k19 rfl hiX2 tyX2 tyX2_ok nmX2 2 (by decide) mf_X2_21 rfl rfl rfl rfl (Nat.le_of_ble_eq_true rfl) dX2_init_19 (fun H locs f20 hf20 G => ?_)
  have k21 : f20 th = some (.inr (4, [.ref q11, .int 0, .int 0, .int 0, .int 0, .int 0])) := hus hf20
  refine lv_aload_n hx hb dX2_init_22 rfl (lv_at hl 0 rfl) ?_
  refine lv_iconst (v := 0) hx hb dX2_init_23 (by decide) ?_
  refine g_put C0 G k21 rfl hiX2 tyX2 tyX2_ok nmX2 3 (by decide) mf_X2_24 rfl rfl rfl rfl (Nat.le_of_ble_eq_true rfl) dX2_init_24 (fun H locs f22 hf22 G => ?_)
  have k23 : f22 th = some (.inr (4, [.ref q11, .int 0, .int 0, .int 0, .int 0, .int 0])) := hus hf22
  refine lv_aload_n hx hb dX2_init_27 rfl (lv_at hl 0 rfl) ?_
  refine lv_iconst (v := 0) hx hb dX2_init_28 (by decide) ?_
  refine g_put C0 G k23 rfl hiX2 tyX2 tyX2_ok nmX2 4 (by decide) mf_X2_28 rfl rfl rfl rfl (Nat.le_of_ble_eq_true rfl) dX2_init_29 (fun H locs f24 hf24 G => ?_)
  have k25 : f24 th = some (.inr (4, [.ref q11, .int 0, .int 0, .int 0, .int 0, .int 0])) := hus hf24
  refine lv_aload_n hx hb dX2_init_32 rfl (lv_at hl 0 rfl) ?_
  refine lv_iconst (v := 0) hx hb dX2_init_33 (by decide) ?_
  refine g_put C0 G k25 rfl hiX2 tyX2 tyX2_ok nmX2 5 (by decide) mf_X2_31 rfl rfl rfl rfl (Nat.le_of_ble_eq_true rfl) dX2_init_34 (fun H locs f26 hf26 G => ?_)
  have k27 : f26 th = some (.inr (4, [.ref q11, .int 0, .int 0, .int 0, .int 0, .int 0])) := hus hf26
  refine lv_iconst (v := 0) hx hb dX2_init_37 (by decide) ?_
  refine lv_istore_n (lv' := [(1, .int 0), (0, .ref th)]) hx hb dX2_init_38 rfl hl (by decide) rfl (fun ls hl => ?_)
  refine lv_iload_n hx hb dX2_init_39 rfl (lv_at hl 0 rfl) ?_
  refine lv_aload_n hx hb dX2_init_40 rfl (lv_at hl 1 rfl) ?_
  refine g_get C0 G k27 rfl hiX2 0 (by decide) mf_X2_11 rfl dX2_init_41 ?_
  have k28 : f26 q11 = some (.inl (cy 3, 4, .inr (.inr (.inr (.inr (fun _ => none)))))) := hupD hf26 k25 (hupD hf24 k23 (hupD hf22 k21 (hupD hf20 k19 (hupD hf18 k17 (hupD hf16 k15 k14 rfl) rfl) rfl) rfl) rfl) rfl
  refine g_alen C0 G k28 3 rfl (v := 4) rfl dX2_init_44 ?_
  refine lv_icmp_ge (tgt := 67) hx hb dX2_init_45 (by decide) (fun c29 => absurd c29 (by decide)) (fun _ => ?_)
  refine lv_aload_n hx hb dX2_init_48 rfl (lv_at hl 1 rfl) ?_
  refine g_get C0 G k27 rfl hiX2 0 (by decide) mf_X2_11 rfl dX2_init_49 ?_
  refine lv_iload_n hx hb dX2_init_52 rfl (lv_at hl 0 rfl) ?_
  have zq30 := G.2.1
  have z32 : q11 < _ := (G.1 _ _ k28).1.lt
  refine g_new C0 G (ci := 2) (fs := [.null, .null, .null, .null, .null, .null, .int 0, .int 0, .int 0, .int 0, .int 0]) rfl hiX0 tyX0 tyX0_ok mk_X2_9 mn_X0 mz_X0 (fun j hj => by rcases (show j = 0 ∨ j = 1 ∨ j = 2 ∨ j = 3 ∨ j = 4 ∨ j = 5 ∨ j = 6 ∨ j = 7 ∨ j = 8 ∨ j = 9 ∨ j = 10 by omega) with rfl | rfl | rfl | rfl | rfl | rfl | rfl | rfl | rfl | rfl | rfl <;> rfl) (Nat.le_of_ble_eq_true rfl) (Nat.le_of_ble_eq_true rfl) dX2_init_53 (fun q30 H f31 nq30 hf31 G hzq30 => ?_)
  have k33 : f31 q30 = some (.inr (2, [.null, .null, .null, .null, .null, .null, .int 0, .int 0, .int 0, .int 0, .int 0])) := hus hf31
  refine lv_dup hx hb dX2_init_56 rfl ?_
  have z34 : q30 < _ := (G.1 _ _ k33).1.lt
  refine g_cV C0 G (g_runIN C0 G (rest := [.ref q30, .int 0, .ref q11]) (k_X0_init hfl  k33) hY_X0_init mq_X2_34 mi_X0_init rfl ⟨(Nat.le_of_ble_eq_true rfl), (Nat.le_of_ble_eq_true rfl)⟩ rfl hl.1 rfl (Nat.le_of_ble_eq_true rfl) dX2_init_57 ⟨(Nat.le_of_ble_eq_true rfl), (Nat.le_of_ble_eq_true rfl)⟩) (kx_no rfl) (fun u36 H locs hp35 G => ?_)
  obtain ⟨q37, q38, q39, q40, q41, q42, q43, q44, q45, q46, q47, q48, o49, o50, o51, o52, o53, o54, o55, o56, o57, o58, o59, o60, k61, k62, k63, k64, k65, k66, k67, k68, k69, k70, k71, k72, k73, fr74⟩ := hp35
  have k75 : u36 q11 = some (.inl (cy 3, 4, .inr (.inr (.inr (.inr (fun _ => none)))))) := hupF fr74 hf31 nq30 k28
  refine g_aast C0 G k75 3 rfl k73 rfl (by unfold vp_in; decide) dX2_init_60 (fun H locs f76 hf76 G => ?_)
  have k77 : f76 q11 = some (.inl (cy 3, 4, .inr (.inr (.inr (.inr (va_up (fun _ => none) 0 (some q30))))))) := hus hf76
  refine lv_iinc (v := 1) (lv' := [(1, .int 1), (0, .ref th)]) hx hb dX2_init_61 hl (k := 0) rfl (by exact (by decide)) (by decide) rfl (fun ls hl => ?_)
  refine lv_goto (tgt := 39) hx hb dX2_init_64 (by decide) ?_
  refine lv_iload_n hx hb dX2_init_39 rfl (lv_at hl 0 rfl) ?_
  refine lv_aload_n hx hb dX2_init_40 rfl (lv_at hl 1 rfl) ?_
  have k79 : f76 th = some (.inr (4, [.ref q11, .int 0, .int 0, .int 0, .int 0, .int 0])) := hupD hf76 k75 (hupF fr74 hf31 nq30 k27) rfl
  refine g_get C0 G k79 rfl hiX2 0 (by decide) mf_X2_11 rfl dX2_init_41 ?_
  refine g_alen C0 G k77 3 rfl (v := 4) rfl dX2_init_44 ?_
  refine lv_icmp_ge (tgt := 67) hx hb dX2_init_45 (by decide) (fun c80 => absurd c80 (by decide)) (fun _ => ?_)
  refine lv_aload_n hx hb dX2_init_48 rfl (lv_at hl 1 rfl) ?_
  refine g_get C0 G k79 rfl hiX2 0 (by decide) mf_X2_11 rfl dX2_init_49 ?_
  refine lv_iload_n hx hb dX2_init_52 rfl (lv_at hl 0 rfl) ?_
  have zq81 := G.2.1
  have k83 : f76 q48 = some (.inl (cy 0, 20, .inl (fun _ => 0))) := hupD hf76 k75 k72 rfl
  have z84 : q48 < _ := (G.1 _ _ k83).1.lt
  refine g_new C0 G (ci := 2) (fs := [.null, .null, .null, .null, .null, .null, .int 0, .int 0, .int 0, .int 0, .int 0]) rfl hiX0 tyX0 tyX0_ok mk_X2_9 mn_X0 mz_X0 (fun j hj => by rcases (show j = 0 ∨ j = 1 ∨ j = 2 ∨ j = 3 ∨ j = 4 ∨ j = 5 ∨ j = 6 ∨ j = 7 ∨ j = 8 ∨ j = 9 ∨ j = 10 by omega) with rfl | rfl | rfl | rfl | rfl | rfl | rfl | rfl | rfl | rfl | rfl <;> rfl) (Nat.le_of_ble_eq_true rfl) (Nat.le_of_ble_eq_true rfl) dX2_init_53 (fun q81 H f82 nq81 hf82 G hzq81 => ?_)
  have k85 : f82 q81 = some (.inr (2, [.null, .null, .null, .null, .null, .null, .int 0, .int 0, .int 0, .int 0, .int 0])) := hus hf82
  refine lv_dup hx hb dX2_init_56 rfl ?_
  have z86 : q81 < _ := (G.1 _ _ k85).1.lt
  refine g_cV C0 G (g_runIN C0 G (rest := [.ref q81, .int 1, .ref q11]) (k_X0_init hfl  k85) hY_X0_init mq_X2_34 mi_X0_init rfl ⟨(Nat.le_of_ble_eq_true rfl), (Nat.le_of_ble_eq_true rfl)⟩ rfl hl.1 rfl (Nat.le_of_ble_eq_true rfl) dX2_init_57 ⟨(Nat.le_of_ble_eq_true rfl), (Nat.le_of_ble_eq_true rfl)⟩) (kx_no rfl) (fun u88 H locs hp87 G => ?_)
  obtain ⟨q89, q90, q91, q92, q93, q94, q95, q96, q97, q98, q99, q100, o101, o102, o103, o104, o105, o106, o107, o108, o109, o110, o111, o112, k113, k114, k115, k116, k117, k118, k119, k120, k121, k122, k123, k124, k125, fr126⟩ := hp87
  have k127 : u88 q11 = some (.inl (cy 3, 4, .inr (.inr (.inr (.inr (va_up (fun _ => none) 0 (some q30))))))) := hupF fr126 hf82 nq81 k77
  refine g_aast C0 G k127 3 rfl k125 rfl (by unfold vp_in; decide) dX2_init_60 (fun H locs f128 hf128 G => ?_)
  have k129 : f128 q11 = some (.inl (cy 3, 4, .inr (.inr (.inr (.inr (va_up (va_up (fun _ => none) 0 (some q30)) 1 (some q81))))))) := hus hf128
  refine lv_iinc (v := 2) (lv' := [(1, .int 2), (0, .ref th)]) hx hb dX2_init_61 hl (k := 0) rfl (by exact (by decide)) (by decide) rfl (fun ls hl => ?_)
  refine lv_goto (tgt := 39) hx hb dX2_init_64 (by decide) ?_
  refine lv_iload_n hx hb dX2_init_39 rfl (lv_at hl 0 rfl) ?_
  refine lv_aload_n hx hb dX2_init_40 rfl (lv_at hl 1 rfl) ?_
  have k131 : f128 th = some (.inr (4, [.ref q11, .int 0, .int 0, .int 0, .int 0, .int 0])) := hupD hf128 k127 (hupF fr126 hf82 nq81 k79) rfl
  refine g_get C0 G k131 rfl hiX2 0 (by decide) mf_X2_11 rfl dX2_init_41 ?_
  refine g_alen C0 G k129 3 rfl (v := 4) rfl dX2_init_44 ?_
  refine lv_icmp_ge (tgt := 67) hx hb dX2_init_45 (by decide) (fun c132 => absurd c132 (by decide)) (fun _ => ?_)
  refine lv_aload_n hx hb dX2_init_48 rfl (lv_at hl 1 rfl) ?_
  refine g_get C0 G k131 rfl hiX2 0 (by decide) mf_X2_11 rfl dX2_init_49 ?_
  refine lv_iload_n hx hb dX2_init_52 rfl (lv_at hl 0 rfl) ?_
  have zq133 := G.2.1
  have k135 : f128 q100 = some (.inl (cy 0, 20, .inl (fun _ => 0))) := hupD hf128 k127 k124 rfl
  have z136 : q100 < _ := (G.1 _ _ k135).1.lt
  refine g_new C0 G (ci := 2) (fs := [.null, .null, .null, .null, .null, .null, .int 0, .int 0, .int 0, .int 0, .int 0]) rfl hiX0 tyX0 tyX0_ok mk_X2_9 mn_X0 mz_X0 (fun j hj => by rcases (show j = 0 ∨ j = 1 ∨ j = 2 ∨ j = 3 ∨ j = 4 ∨ j = 5 ∨ j = 6 ∨ j = 7 ∨ j = 8 ∨ j = 9 ∨ j = 10 by omega) with rfl | rfl | rfl | rfl | rfl | rfl | rfl | rfl | rfl | rfl | rfl <;> rfl) (Nat.le_of_ble_eq_true rfl) (Nat.le_of_ble_eq_true rfl) dX2_init_53 (fun q133 H f134 nq133 hf134 G hzq133 => ?_)
  have k137 : f134 q133 = some (.inr (2, [.null, .null, .null, .null, .null, .null, .int 0, .int 0, .int 0, .int 0, .int 0])) := hus hf134
  refine lv_dup hx hb dX2_init_56 rfl ?_
  have z138 : q133 < _ := (G.1 _ _ k137).1.lt
  refine g_cV C0 G (g_runIN C0 G (rest := [.ref q133, .int 2, .ref q11]) (k_X0_init hfl  k137) hY_X0_init mq_X2_34 mi_X0_init rfl ⟨(Nat.le_of_ble_eq_true rfl), (Nat.le_of_ble_eq_true rfl)⟩ rfl hl.1 rfl (Nat.le_of_ble_eq_true rfl) dX2_init_57 ⟨(Nat.le_of_ble_eq_true rfl), (Nat.le_of_ble_eq_true rfl)⟩) (kx_no rfl) (fun u140 H locs hp139 G => ?_)
  obtain ⟨q141, q142, q143, q144, q145, q146, q147, q148, q149, q150, q151, q152, o153, o154, o155, o156, o157, o158, o159, o160, o161, o162, o163, o164, k165, k166, k167, k168, k169, k170, k171, k172, k173, k174, k175, k176, k177, fr178⟩ := hp139
  have k179 : u140 q11 = some (.inl (cy 3, 4, .inr (.inr (.inr (.inr (va_up (va_up (fun _ => none) 0 (some q30)) 1 (some q81))))))) := hupF fr178 hf134 nq133 k129
  refine g_aast C0 G k179 3 rfl k177 rfl (by unfold vp_in; decide) dX2_init_60 (fun H locs f180 hf180 G => ?_)
  have k181 : f180 q11 = some (.inl (cy 3, 4, .inr (.inr (.inr (.inr (va_up (va_up (va_up (fun _ => none) 0 (some q30)) 1 (some q81)) 2 (some q133))))))) := hus hf180
  refine lv_iinc (v := 3) (lv' := [(1, .int 3), (0, .ref th)]) hx hb dX2_init_61 hl (k := 0) rfl (by exact (by decide)) (by decide) rfl (fun ls hl => ?_)
  refine lv_goto (tgt := 39) hx hb dX2_init_64 (by decide) ?_
  refine lv_iload_n hx hb dX2_init_39 rfl (lv_at hl 0 rfl) ?_
  refine lv_aload_n hx hb dX2_init_40 rfl (lv_at hl 1 rfl) ?_
  have k183 : f180 th = some (.inr (4, [.ref q11, .int 0, .int 0, .int 0, .int 0, .int 0])) := hupD hf180 k179 (hupF fr178 hf134 nq133 k131) rfl
  refine g_get C0 G k183 rfl hiX2 0 (by decide) mf_X2_11 rfl dX2_init_41 ?_
  refine g_alen C0 G k181 3 rfl (v := 4) rfl dX2_init_44 ?_
  refine lv_icmp_ge (tgt := 67) hx hb dX2_init_45 (by decide) (fun c184 => absurd c184 (by decide)) (fun _ => ?_)
  refine lv_aload_n hx hb dX2_init_48 rfl (lv_at hl 1 rfl) ?_
  refine g_get C0 G k183 rfl hiX2 0 (by decide) mf_X2_11 rfl dX2_init_49 ?_
  refine lv_iload_n hx hb dX2_init_52 rfl (lv_at hl 0 rfl) ?_
  have zq185 := G.2.1
  have k187 : f180 q152 = some (.inl (cy 0, 20, .inl (fun _ => 0))) := hupD hf180 k179 k176 rfl
  have z188 : q152 < _ := (G.1 _ _ k187).1.lt
  refine g_new C0 G (ci := 2) (fs := [.null, .null, .null, .null, .null, .null, .int 0, .int 0, .int 0, .int 0, .int 0]) rfl hiX0 tyX0 tyX0_ok mk_X2_9 mn_X0 mz_X0 (fun j hj => by rcases (show j = 0 ∨ j = 1 ∨ j = 2 ∨ j = 3 ∨ j = 4 ∨ j = 5 ∨ j = 6 ∨ j = 7 ∨ j = 8 ∨ j = 9 ∨ j = 10 by omega) with rfl | rfl | rfl | rfl | rfl | rfl | rfl | rfl | rfl | rfl | rfl <;> rfl) (Nat.le_of_ble_eq_true rfl) (Nat.le_of_ble_eq_true rfl) dX2_init_53 (fun q185 H f186 nq185 hf186 G hzq185 => ?_)
  have k189 : f186 q185 = some (.inr (2, [.null, .null, .null, .null, .null, .null, .int 0, .int 0, .int 0, .int 0, .int 0])) := hus hf186
  refine lv_dup hx hb dX2_init_56 rfl ?_
  have z190 : q185 < _ := (G.1 _ _ k189).1.lt
  refine g_cV C0 G (g_runIN C0 G (rest := [.ref q185, .int 3, .ref q11]) (k_X0_init hfl  k189) hY_X0_init mq_X2_34 mi_X0_init rfl ⟨(Nat.le_of_ble_eq_true rfl), (Nat.le_of_ble_eq_true rfl)⟩ rfl hl.1 rfl (Nat.le_of_ble_eq_true rfl) dX2_init_57 ⟨(Nat.le_of_ble_eq_true rfl), (Nat.le_of_ble_eq_true rfl)⟩) (kx_no rfl) (fun u192 H locs hp191 G => ?_)
  obtain ⟨q193, q194, q195, q196, q197, q198, q199, q200, q201, q202, q203, q204, o205, o206, o207, o208, o209, o210, o211, o212, o213, o214, o215, o216, k217, k218, k219, k220, k221, k222, k223, k224, k225, k226, k227, k228, k229, fr230⟩ := hp191
  have k231 : u192 q11 = some (.inl (cy 3, 4, .inr (.inr (.inr (.inr (va_up (va_up (va_up (fun _ => none) 0 (some q30)) 1 (some q81)) 2 (some q133))))))) := hupF fr230 hf186 nq185 k181
  refine g_aast C0 G k231 3 rfl k229 rfl (by unfold vp_in; decide) dX2_init_60 (fun H locs f232 hf232 G => ?_)
  have k233 : f232 q11 = some (.inl (cy 3, 4, .inr (.inr (.inr (.inr (va_up (va_up (va_up (va_up (fun _ => none) 0 (some q30)) 1 (some q81)) 2 (some q133)) 3 (some q185))))))) := hus hf232
  refine lv_iinc (v := 4) (lv' := [(1, .int 4), (0, .ref th)]) hx hb dX2_init_61 hl (k := 0) rfl (by exact (by decide)) (by decide) rfl (fun ls hl => ?_)
  refine lv_goto (tgt := 39) hx hb dX2_init_64 (by decide) ?_
  refine lv_iload_n hx hb dX2_init_39 rfl (lv_at hl 0 rfl) ?_
  refine lv_aload_n hx hb dX2_init_40 rfl (lv_at hl 1 rfl) ?_
  have k235 : f232 th = some (.inr (4, [.ref q11, .int 0, .int 0, .int 0, .int 0, .int 0])) := hupD hf232 k231 (hupF fr230 hf186 nq185 k183) rfl
  refine g_get C0 G k235 rfl hiX2 0 (by decide) mf_X2_11 rfl dX2_init_41 ?_
  refine g_alen C0 G k233 3 rfl (v := 4) rfl dX2_init_44 ?_
  refine lv_icmp_ge (tgt := 67) hx hb dX2_init_45 (by decide) (fun _ => ?_) (fun c236 => absurd (by decide) c236)
  have k237 : f232 q30 = some (.inr (2, [.ref q37, .ref q39, .ref q41, .ref q43, .ref q45, .ref q47, .int 0, .int 0, .int 1, .int (-1), .int 0])) := hupD hf232 k231 (hupF fr230 hf186 nq185 (hupD hf180 k179 (hupF fr178 hf134 nq133 (hupD hf128 k127 (hupF fr126 hf82 nq81 (hupD hf76 k75 k73 rfl)) rfl)) rfl)) rfl
  have k238 : f232 q37 = some (.inr (8, [.int 8, .ref q38, .int 0])) := hupD hf232 k231 (hupF fr230 hf186 nq185 (hupD hf180 k179 (hupF fr178 hf134 nq133 (hupD hf128 k127 (hupF fr126 hf82 nq81 (hupD hf76 k75 k61 rfl)) rfl)) rfl)) rfl
  have k239 : f232 q38 = some (.inl (cy 0, 8, .inl (fun _ => 0))) := hupD hf232 k231 (hupF fr230 hf186 nq185 (hupD hf180 k179 (hupF fr178 hf134 nq133 (hupD hf128 k127 (hupF fr126 hf82 nq81 (hupD hf76 k75 k62 rfl)) rfl)) rfl)) rfl
  have k240 : f232 q39 = some (.inr (8, [.int 6, .ref q40, .int 0])) := hupD hf232 k231 (hupF fr230 hf186 nq185 (hupD hf180 k179 (hupF fr178 hf134 nq133 (hupD hf128 k127 (hupF fr126 hf82 nq81 (hupD hf76 k75 k63 rfl)) rfl)) rfl)) rfl
  have k241 : f232 q40 = some (.inl (cy 0, 66, .inl (fun _ => 0))) := hupD hf232 k231 (hupF fr230 hf186 nq185 (hupD hf180 k179 (hupF fr178 hf134 nq133 (hupD hf128 k127 (hupF fr126 hf82 nq81 (hupD hf76 k75 k64 rfl)) rfl)) rfl)) rfl
  have k242 : f232 q41 = some (.inr (8, [.int 7, .ref q42, .int 0])) := hupD hf232 k231 (hupF fr230 hf186 nq185 (hupD hf180 k179 (hupF fr178 hf134 nq133 (hupD hf128 k127 (hupF fr126 hf82 nq81 (hupD hf76 k75 k65 rfl)) rfl)) rfl)) rfl
  have k243 : f232 q42 = some (.inl (cy 0, 77, .inl (fun _ => 0))) := hupD hf232 k231 (hupF fr230 hf186 nq185 (hupD hf180 k179 (hupF fr178 hf134 nq133 (hupD hf128 k127 (hupF fr126 hf82 nq81 (hupD hf76 k75 k66 rfl)) rfl)) rfl)) rfl
  have k244 : f232 q43 = some (.inr (8, [.int 8, .ref q44, .int 0])) := hupD hf232 k231 (hupF fr230 hf186 nq185 (hupD hf180 k179 (hupF fr178 hf134 nq133 (hupD hf128 k127 (hupF fr126 hf82 nq81 (hupD hf76 k75 k67 rfl)) rfl)) rfl)) rfl
  have k245 : f232 q44 = some (.inl (cy 0, 4104, .inl (fun _ => 0))) := hupD hf232 k231 (hupF fr230 hf186 nq185 (hupD hf180 k179 (hupF fr178 hf134 nq133 (hupD hf128 k127 (hupF fr126 hf82 nq81 (hupD hf76 k75 k68 rfl)) rfl)) rfl)) rfl
  have k246 : f232 q45 = some (.inr (8, [.int 3, .ref q46, .int 0])) := hupD hf232 k231 (hupF fr230 hf186 nq185 (hupD hf180 k179 (hupF fr178 hf134 nq133 (hupD hf128 k127 (hupF fr126 hf82 nq81 (hupD hf76 k75 k69 rfl)) rfl)) rfl)) rfl
  have k247 : f232 q46 = some (.inl (cy 0, 33, .inl (fun _ => 0))) := hupD hf232 k231 (hupF fr230 hf186 nq185 (hupD hf180 k179 (hupF fr178 hf134 nq133 (hupD hf128 k127 (hupF fr126 hf82 nq81 (hupD hf76 k75 k70 rfl)) rfl)) rfl)) rfl
  have k248 : f232 q47 = some (.inr (5, [.ref q48, .int 0, .int 0, .int 0, .int (-1), .int (-1), .int 0, .int 0, .int 0])) := hupD hf232 k231 (hupF fr230 hf186 nq185 (hupD hf180 k179 (hupF fr178 hf134 nq133 (hupD hf128 k127 (hupF fr126 hf82 nq81 (hupD hf76 k75 k71 rfl)) rfl)) rfl)) rfl
  have k249 : f232 q48 = some (.inl (cy 0, 20, .inl (fun _ => 0))) := hupD hf232 k231 (hupF fr230 hf186 nq185 (hupD hf180 k179 (hupF fr178 hf134 nq133 (hupD hf128 k127 (hupF fr126 hf82 nq81 k83) rfl)) rfl)) rfl
  have k250 : f232 q81 = some (.inr (2, [.ref q89, .ref q91, .ref q93, .ref q95, .ref q97, .ref q99, .int 0, .int 0, .int 1, .int (-1), .int 0])) := hupD hf232 k231 (hupF fr230 hf186 nq185 (hupD hf180 k179 (hupF fr178 hf134 nq133 (hupD hf128 k127 k125 rfl)) rfl)) rfl
  have k251 : f232 q89 = some (.inr (8, [.int 8, .ref q90, .int 0])) := hupD hf232 k231 (hupF fr230 hf186 nq185 (hupD hf180 k179 (hupF fr178 hf134 nq133 (hupD hf128 k127 k113 rfl)) rfl)) rfl
  have k252 : f232 q90 = some (.inl (cy 0, 8, .inl (fun _ => 0))) := hupD hf232 k231 (hupF fr230 hf186 nq185 (hupD hf180 k179 (hupF fr178 hf134 nq133 (hupD hf128 k127 k114 rfl)) rfl)) rfl
  have k253 : f232 q91 = some (.inr (8, [.int 6, .ref q92, .int 0])) := hupD hf232 k231 (hupF fr230 hf186 nq185 (hupD hf180 k179 (hupF fr178 hf134 nq133 (hupD hf128 k127 k115 rfl)) rfl)) rfl
  have k254 : f232 q92 = some (.inl (cy 0, 66, .inl (fun _ => 0))) := hupD hf232 k231 (hupF fr230 hf186 nq185 (hupD hf180 k179 (hupF fr178 hf134 nq133 (hupD hf128 k127 k116 rfl)) rfl)) rfl
  have k255 : f232 q93 = some (.inr (8, [.int 7, .ref q94, .int 0])) := hupD hf232 k231 (hupF fr230 hf186 nq185 (hupD hf180 k179 (hupF fr178 hf134 nq133 (hupD hf128 k127 k117 rfl)) rfl)) rfl
  have k256 : f232 q94 = some (.inl (cy 0, 77, .inl (fun _ => 0))) := hupD hf232 k231 (hupF fr230 hf186 nq185 (hupD hf180 k179 (hupF fr178 hf134 nq133 (hupD hf128 k127 k118 rfl)) rfl)) rfl
  have k257 : f232 q95 = some (.inr (8, [.int 8, .ref q96, .int 0])) := hupD hf232 k231 (hupF fr230 hf186 nq185 (hupD hf180 k179 (hupF fr178 hf134 nq133 (hupD hf128 k127 k119 rfl)) rfl)) rfl
  have k258 : f232 q96 = some (.inl (cy 0, 4104, .inl (fun _ => 0))) := hupD hf232 k231 (hupF fr230 hf186 nq185 (hupD hf180 k179 (hupF fr178 hf134 nq133 (hupD hf128 k127 k120 rfl)) rfl)) rfl
  have k259 : f232 q97 = some (.inr (8, [.int 3, .ref q98, .int 0])) := hupD hf232 k231 (hupF fr230 hf186 nq185 (hupD hf180 k179 (hupF fr178 hf134 nq133 (hupD hf128 k127 k121 rfl)) rfl)) rfl
  have k260 : f232 q98 = some (.inl (cy 0, 33, .inl (fun _ => 0))) := hupD hf232 k231 (hupF fr230 hf186 nq185 (hupD hf180 k179 (hupF fr178 hf134 nq133 (hupD hf128 k127 k122 rfl)) rfl)) rfl
  have k261 : f232 q99 = some (.inr (5, [.ref q100, .int 0, .int 0, .int 0, .int (-1), .int (-1), .int 0, .int 0, .int 0])) := hupD hf232 k231 (hupF fr230 hf186 nq185 (hupD hf180 k179 (hupF fr178 hf134 nq133 (hupD hf128 k127 k123 rfl)) rfl)) rfl
  have k262 : f232 q100 = some (.inl (cy 0, 20, .inl (fun _ => 0))) := hupD hf232 k231 (hupF fr230 hf186 nq185 (hupD hf180 k179 (hupF fr178 hf134 nq133 k135) rfl)) rfl
  have k263 : f232 q133 = some (.inr (2, [.ref q141, .ref q143, .ref q145, .ref q147, .ref q149, .ref q151, .int 0, .int 0, .int 1, .int (-1), .int 0])) := hupD hf232 k231 (hupF fr230 hf186 nq185 (hupD hf180 k179 k177 rfl)) rfl
  have k264 : f232 q141 = some (.inr (8, [.int 8, .ref q142, .int 0])) := hupD hf232 k231 (hupF fr230 hf186 nq185 (hupD hf180 k179 k165 rfl)) rfl
  have k265 : f232 q142 = some (.inl (cy 0, 8, .inl (fun _ => 0))) := hupD hf232 k231 (hupF fr230 hf186 nq185 (hupD hf180 k179 k166 rfl)) rfl
  have k266 : f232 q143 = some (.inr (8, [.int 6, .ref q144, .int 0])) := hupD hf232 k231 (hupF fr230 hf186 nq185 (hupD hf180 k179 k167 rfl)) rfl
  have k267 : f232 q144 = some (.inl (cy 0, 66, .inl (fun _ => 0))) := hupD hf232 k231 (hupF fr230 hf186 nq185 (hupD hf180 k179 k168 rfl)) rfl
  have k268 : f232 q145 = some (.inr (8, [.int 7, .ref q146, .int 0])) := hupD hf232 k231 (hupF fr230 hf186 nq185 (hupD hf180 k179 k169 rfl)) rfl
  have k269 : f232 q146 = some (.inl (cy 0, 77, .inl (fun _ => 0))) := hupD hf232 k231 (hupF fr230 hf186 nq185 (hupD hf180 k179 k170 rfl)) rfl
  have k270 : f232 q147 = some (.inr (8, [.int 8, .ref q148, .int 0])) := hupD hf232 k231 (hupF fr230 hf186 nq185 (hupD hf180 k179 k171 rfl)) rfl
  have k271 : f232 q148 = some (.inl (cy 0, 4104, .inl (fun _ => 0))) := hupD hf232 k231 (hupF fr230 hf186 nq185 (hupD hf180 k179 k172 rfl)) rfl
  have k272 : f232 q149 = some (.inr (8, [.int 3, .ref q150, .int 0])) := hupD hf232 k231 (hupF fr230 hf186 nq185 (hupD hf180 k179 k173 rfl)) rfl
  have k273 : f232 q150 = some (.inl (cy 0, 33, .inl (fun _ => 0))) := hupD hf232 k231 (hupF fr230 hf186 nq185 (hupD hf180 k179 k174 rfl)) rfl
  have k274 : f232 q151 = some (.inr (5, [.ref q152, .int 0, .int 0, .int 0, .int (-1), .int (-1), .int 0, .int 0, .int 0])) := hupD hf232 k231 (hupF fr230 hf186 nq185 (hupD hf180 k179 k175 rfl)) rfl
  have k275 : f232 q152 = some (.inl (cy 0, 20, .inl (fun _ => 0))) := hupD hf232 k231 (hupF fr230 hf186 nq185 k187) rfl
  have k276 : f232 q185 = some (.inr (2, [.ref q193, .ref q195, .ref q197, .ref q199, .ref q201, .ref q203, .int 0, .int 0, .int 1, .int (-1), .int 0])) := hupD hf232 k231 k229 rfl
  have k277 : f232 q193 = some (.inr (8, [.int 8, .ref q194, .int 0])) := hupD hf232 k231 k217 rfl
  have k278 : f232 q194 = some (.inl (cy 0, 8, .inl (fun _ => 0))) := hupD hf232 k231 k218 rfl
  have k279 : f232 q195 = some (.inr (8, [.int 6, .ref q196, .int 0])) := hupD hf232 k231 k219 rfl
  have k280 : f232 q196 = some (.inl (cy 0, 66, .inl (fun _ => 0))) := hupD hf232 k231 k220 rfl
  have k281 : f232 q197 = some (.inr (8, [.int 7, .ref q198, .int 0])) := hupD hf232 k231 k221 rfl
  have k282 : f232 q198 = some (.inl (cy 0, 77, .inl (fun _ => 0))) := hupD hf232 k231 k222 rfl
  have k283 : f232 q199 = some (.inr (8, [.int 8, .ref q200, .int 0])) := hupD hf232 k231 k223 rfl
  have k284 : f232 q200 = some (.inl (cy 0, 4104, .inl (fun _ => 0))) := hupD hf232 k231 k224 rfl
  have k285 : f232 q201 = some (.inr (8, [.int 3, .ref q202, .int 0])) := hupD hf232 k231 k225 rfl
  have k286 : f232 q202 = some (.inl (cy 0, 33, .inl (fun _ => 0))) := hupD hf232 k231 k226 rfl
  have k287 : f232 q203 = some (.inr (5, [.ref q204, .int 0, .int 0, .int 0, .int (-1), .int (-1), .int 0, .int 0, .int 0])) := hupD hf232 k231 k227 rfl
  have k288 : f232 q204 = some (.inl (cy 0, 20, .inl (fun _ => 0))) := hupD hf232 k231 k228 rfl
  have hth : th < sz := by have h6 := (Gz.1 _ _ h_t).1.lt; rw [hsz] at h6; exact h6
  have hmono : ∀ k, mkA [th, q11, q30, q37, q38, q39, q40, q41, q42, q43, q44, q45, q46, q47, q48, q81, q89, q90, q91, q92, q93, q94, q95, q96, q97, q98, q99, q100, q133, q141, q142, q143, q144, q145, q146, q147, q148, q149, q150, q151, q152, q185, q193, q194, q195, q196, q197, q198, q199, q200, q201, q202, q203, q204] q204 k < mkA [th, q11, q30, q37, q38, q39, q40, q41, q42, q43, q44, q45, q46, q47, q48, q81, q89, q90, q91, q92, q93, q94, q95, q96, q97, q98, q99, q100, q133, q141, q142, q143, q144, q145, q146, q147, q148, q149, q150, q151, q152, q185, q193, q194, q195, q196, q197, q198, q199, q200, q201, q202, q203, q204] q204 (k + 1) := by
    refine mkA_mono _ _ (fun k hk => ?_) (fun k hk => ?_) (show 0 < 54 from by omega)
    · have hk2 : k + 1 < 54 := hk
      have h9 : k = 0 ∨ k = 1 ∨ k = 2 ∨ k = 3 ∨ k = 4 ∨ k = 5 ∨ k = 6 ∨ k = 7 ∨ k = 8 ∨ k = 9 ∨ k = 10 ∨ k = 11 ∨ k = 12 ∨ k = 13 ∨ k = 14 ∨ k = 15 ∨ k = 16 ∨ k = 17 ∨ k = 18 ∨ k = 19 ∨ k = 20 ∨ k = 21 ∨ k = 22 ∨ k = 23 ∨ k = 24 ∨ k = 25 ∨ k = 26 ∨ k = 27 ∨ k = 28 ∨ k = 29 ∨ k = 30 ∨ k = 31 ∨ k = 32 ∨ k = 33 ∨ k = 34 ∨ k = 35 ∨ k = 36 ∨ k = 37 ∨ k = 38 ∨ k = 39 ∨ k = 40 ∨ k = 41 ∨ k = 42 ∨ k = 43 ∨ k = 44 ∨ k = 45 ∨ k = 46 ∨ k = 47 ∨ k = 48 ∨ k = 49 ∨ k = 50 ∨ k = 51 ∨ k = 52 := c53 (Nat.lt_of_succ_lt_succ hk2)
      rcases h9 with rfl | rfl | rfl | rfl | rfl | rfl | rfl | rfl | rfl | rfl | rfl | rfl | rfl | rfl | rfl | rfl | rfl | rfl | rfl | rfl | rfl | rfl | rfl | rfl | rfl | rfl | rfl | rfl | rfl | rfl | rfl | rfl | rfl | rfl | rfl | rfl | rfl | rfl | rfl | rfl | rfl | rfl | rfl | rfl | rfl | rfl | rfl | rfl | rfl | rfl | rfl | rfl | rfl
      · show th < q11
        first | assumption | omega
      · show q11 < q30
        first | assumption | omega
      · show q30 < q37
        first | assumption | omega
      · show q37 < q38
        first | assumption | omega
      · show q38 < q39
        first | assumption | omega
      · show q39 < q40
        first | assumption | omega
      · show q40 < q41
        first | assumption | omega
      · show q41 < q42
        first | assumption | omega
      · show q42 < q43
        first | assumption | omega
      · show q43 < q44
        first | assumption | omega
      · show q44 < q45
        first | assumption | omega
      · show q45 < q46
        first | assumption | omega
      · show q46 < q47
        first | assumption | omega
      · show q47 < q48
        first | assumption | omega
      · show q48 < q81
        first | assumption | omega
      · show q81 < q89
        first | assumption | omega
      · show q89 < q90
        first | assumption | omega
      · show q90 < q91
        first | assumption | omega
      · show q91 < q92
        first | assumption | omega
      · show q92 < q93
        first | assumption | omega
      · show q93 < q94
        first | assumption | omega
      · show q94 < q95
        first | assumption | omega
      · show q95 < q96
        first | assumption | omega
      · show q96 < q97
        first | assumption | omega
      · show q97 < q98
        first | assumption | omega
      · show q98 < q99
        first | assumption | omega
      · show q99 < q100
        first | assumption | omega
      · show q100 < q133
        first | assumption | omega
      · show q133 < q141
        first | assumption | omega
      · show q141 < q142
        first | assumption | omega
      · show q142 < q143
        first | assumption | omega
      · show q143 < q144
        first | assumption | omega
      · show q144 < q145
        first | assumption | omega
      · show q145 < q146
        first | assumption | omega
      · show q146 < q147
        first | assumption | omega
      · show q147 < q148
        first | assumption | omega
      · show q148 < q149
        first | assumption | omega
      · show q149 < q150
        first | assumption | omega
      · show q150 < q151
        first | assumption | omega
      · show q151 < q152
        first | assumption | omega
      · show q152 < q185
        first | assumption | omega
      · show q185 < q193
        first | assumption | omega
      · show q193 < q194
        first | assumption | omega
      · show q194 < q195
        first | assumption | omega
      · show q195 < q196
        first | assumption | omega
      · show q196 < q197
        first | assumption | omega
      · show q197 < q198
        first | assumption | omega
      · show q198 < q199
        first | assumption | omega
      · show q199 < q200
        first | assumption | omega
      · show q200 < q201
        first | assumption | omega
      · show q201 < q202
        first | assumption | omega
      · show q202 < q203
        first | assumption | omega
      · show q203 < q204
        first | assumption | omega
    · have hk2 : k < 54 := hk
      have h9 : k = 0 ∨ k = 1 ∨ k = 2 ∨ k = 3 ∨ k = 4 ∨ k = 5 ∨ k = 6 ∨ k = 7 ∨ k = 8 ∨ k = 9 ∨ k = 10 ∨ k = 11 ∨ k = 12 ∨ k = 13 ∨ k = 14 ∨ k = 15 ∨ k = 16 ∨ k = 17 ∨ k = 18 ∨ k = 19 ∨ k = 20 ∨ k = 21 ∨ k = 22 ∨ k = 23 ∨ k = 24 ∨ k = 25 ∨ k = 26 ∨ k = 27 ∨ k = 28 ∨ k = 29 ∨ k = 30 ∨ k = 31 ∨ k = 32 ∨ k = 33 ∨ k = 34 ∨ k = 35 ∨ k = 36 ∨ k = 37 ∨ k = 38 ∨ k = 39 ∨ k = 40 ∨ k = 41 ∨ k = 42 ∨ k = 43 ∨ k = 44 ∨ k = 45 ∨ k = 46 ∨ k = 47 ∨ k = 48 ∨ k = 49 ∨ k = 50 ∨ k = 51 ∨ k = 52 ∨ k = 53 := c54 hk2
      rcases h9 with rfl | rfl | rfl | rfl | rfl | rfl | rfl | rfl | rfl | rfl | rfl | rfl | rfl | rfl | rfl | rfl | rfl | rfl | rfl | rfl | rfl | rfl | rfl | rfl | rfl | rfl | rfl | rfl | rfl | rfl | rfl | rfl | rfl | rfl | rfl | rfl | rfl | rfl | rfl | rfl | rfl | rfl | rfl | rfl | rfl | rfl | rfl | rfl | rfl | rfl | rfl | rfl | rfl | rfl
      · show th ≤ q204
        omega
      · show q11 ≤ q204
        omega
      · show q30 ≤ q204
        omega
      · show q37 ≤ q204
        omega
      · show q38 ≤ q204
        omega
      · show q39 ≤ q204
        omega
      · show q40 ≤ q204
        omega
      · show q41 ≤ q204
        omega
      · show q42 ≤ q204
        omega
      · show q43 ≤ q204
        omega
      · show q44 ≤ q204
        omega
      · show q45 ≤ q204
        omega
      · show q46 ≤ q204
        omega
      · show q47 ≤ q204
        omega
      · show q48 ≤ q204
        omega
      · show q81 ≤ q204
        omega
      · show q89 ≤ q204
        omega
      · show q90 ≤ q204
        omega
      · show q91 ≤ q204
        omega
      · show q92 ≤ q204
        omega
      · show q93 ≤ q204
        omega
      · show q94 ≤ q204
        omega
      · show q95 ≤ q204
        omega
      · show q96 ≤ q204
        omega
      · show q97 ≤ q204
        omega
      · show q98 ≤ q204
        omega
      · show q99 ≤ q204
        omega
      · show q100 ≤ q204
        omega
      · show q133 ≤ q204
        omega
      · show q141 ≤ q204
        omega
      · show q142 ≤ q204
        omega
      · show q143 ≤ q204
        omega
      · show q144 ≤ q204
        omega
      · show q145 ≤ q204
        omega
      · show q146 ≤ q204
        omega
      · show q147 ≤ q204
        omega
      · show q148 ≤ q204
        omega
      · show q149 ≤ q204
        omega
      · show q150 ≤ q204
        omega
      · show q151 ≤ q204
        omega
      · show q152 ≤ q204
        omega
      · show q185 ≤ q204
        omega
      · show q193 ≤ q204
        omega
      · show q194 ≤ q204
        omega
      · show q195 ≤ q204
        omega
      · show q196 ≤ q204
        omega
      · show q197 ≤ q204
        omega
      · show q198 ≤ q204
        omega
      · show q199 ≤ q204
        omega
      · show q200 ≤ q204
        omega
      · show q201 ≤ q204
        omega
      · show q202 ≤ q204
        omega
      · show q203 ≤ q204
        omega
      · show q204 ≤ q204
        omega
  have hP9 : ∃ (a : Nat → Nat) (q : Nat → Option Nat), a 0 = th ∧ sz ≤ a 1 ∧ (∀ k, a k < a (k + 1)) ∧ (∀ (A : Nat → Nat) (b : Nat), (∀ k, k < 54 → A (b + k) = a k) → MW A b cy q (fun _ => 0) iS f232 ∧ HQ A b q) ∧ hFr f f232 th := by
    refine ⟨mkA [th, q11, q30, q37, q38, q39, q40, q41, q42, q43, q44, q45, q46, q47, q48, q81, q89, q90, q91, q92, q93, q94, q95, q96, q97, q98, q99, q100, q133, q141, q142, q143, q144, q145, q146, q147, q148, q149, q150, q151, q152, q185, q193, q194, q195, q196, q197, q198, q199, q200, q201, q202, q203, q204] q204, ?_⟩
    apply Exists.intro
    refine ⟨rfl, ?_, hmono, ?_, (fun a9 e9 h7 h8 => by have h6 := (Gz.1 _ _ h8).1.lt; rw [hsz] at h6; exact hup hf232 (Nat.ne_of_lt (Nat.lt_of_lt_of_le h6 (by omega))) (fr230 _ _ (Nat.ne_of_lt (Nat.lt_of_lt_of_le h6 (by omega))) (hup hf186 (Nat.ne_of_lt (Nat.lt_of_lt_of_le h6 (by omega))) (hup hf180 (Nat.ne_of_lt (Nat.lt_of_lt_of_le h6 (by omega))) (fr178 _ _ (Nat.ne_of_lt (Nat.lt_of_lt_of_le h6 (by omega))) (hup hf134 (Nat.ne_of_lt (Nat.lt_of_lt_of_le h6 (by omega))) (hup hf128 (Nat.ne_of_lt (Nat.lt_of_lt_of_le h6 (by omega))) (fr126 _ _ (Nat.ne_of_lt (Nat.lt_of_lt_of_le h6 (by omega))) (hup hf82 (Nat.ne_of_lt (Nat.lt_of_lt_of_le h6 (by omega))) (hup hf76 (Nat.ne_of_lt (Nat.lt_of_lt_of_le h6 (by omega))) (fr74 _ _ (Nat.ne_of_lt (Nat.lt_of_lt_of_le h6 (by omega))) (hup hf31 (Nat.ne_of_lt (Nat.lt_of_lt_of_le h6 (by omega))) (hup hf26 h7 (hup hf24 h7 (hup hf22 h7 (hup hf20 h7 (hup hf18 h7 (hup hf16 h7 (hup hf12 (Nat.ne_of_lt (Nat.lt_of_lt_of_le h6 (by omega))) (h8))))))))))))))))))))⟩
    · show sz ≤ q11
      omega
    · intro A b hA
      have e0 : A (b + 0) = th := hA 0 (by omega)
      have e1 : A (b + 1) = q11 := hA 1 (by omega)
      have e2 : A (b + 2) = q30 := hA 2 (by omega)
      have e3 : A (b + 3) = q37 := hA 3 (by omega)
      have e4 : A (b + 4) = q38 := hA 4 (by omega)
      have e5 : A (b + 5) = q39 := hA 5 (by omega)
      have e6 : A (b + 6) = q40 := hA 6 (by omega)
      have e7 : A (b + 7) = q41 := hA 7 (by omega)
      have e8 : A (b + 8) = q42 := hA 8 (by omega)
      have e9 : A (b + 9) = q43 := hA 9 (by omega)
      have e10 : A (b + 10) = q44 := hA 10 (by omega)
      have e11 : A (b + 11) = q45 := hA 11 (by omega)
      have e12 : A (b + 12) = q46 := hA 12 (by omega)
      have e13 : A (b + 13) = q47 := hA 13 (by omega)
      have e14 : A (b + 14) = q48 := hA 14 (by omega)
      have e15 : A (b + 15) = q81 := hA 15 (by omega)
      have e16 : A (b + 16) = q89 := hA 16 (by omega)
      have e17 : A (b + 17) = q90 := hA 17 (by omega)
      have e18 : A (b + 18) = q91 := hA 18 (by omega)
      have e19 : A (b + 19) = q92 := hA 19 (by omega)
      have e20 : A (b + 20) = q93 := hA 20 (by omega)
      have e21 : A (b + 21) = q94 := hA 21 (by omega)
      have e22 : A (b + 22) = q95 := hA 22 (by omega)
      have e23 : A (b + 23) = q96 := hA 23 (by omega)
      have e24 : A (b + 24) = q97 := hA 24 (by omega)
      have e25 : A (b + 25) = q98 := hA 25 (by omega)
      have e26 : A (b + 26) = q99 := hA 26 (by omega)
      have e27 : A (b + 27) = q100 := hA 27 (by omega)
      have e28 : A (b + 28) = q133 := hA 28 (by omega)
      have e29 : A (b + 29) = q141 := hA 29 (by omega)
      have e30 : A (b + 30) = q142 := hA 30 (by omega)
      have e31 : A (b + 31) = q143 := hA 31 (by omega)
      have e32 : A (b + 32) = q144 := hA 32 (by omega)
      have e33 : A (b + 33) = q145 := hA 33 (by omega)
      have e34 : A (b + 34) = q146 := hA 34 (by omega)
      have e35 : A (b + 35) = q147 := hA 35 (by omega)
      have e36 : A (b + 36) = q148 := hA 36 (by omega)
      have e37 : A (b + 37) = q149 := hA 37 (by omega)
      have e38 : A (b + 38) = q150 := hA 38 (by omega)
      have e39 : A (b + 39) = q151 := hA 39 (by omega)
      have e40 : A (b + 40) = q152 := hA 40 (by omega)
      have e41 : A (b + 41) = q185 := hA 41 (by omega)
      have e42 : A (b + 42) = q193 := hA 42 (by omega)
      have e43 : A (b + 43) = q194 := hA 43 (by omega)
      have e44 : A (b + 44) = q195 := hA 44 (by omega)
      have e45 : A (b + 45) = q196 := hA 45 (by omega)
      have e46 : A (b + 46) = q197 := hA 46 (by omega)
      have e47 : A (b + 47) = q198 := hA 47 (by omega)
      have e48 : A (b + 48) = q199 := hA 48 (by omega)
      have e49 : A (b + 49) = q200 := hA 49 (by omega)
      have e50 : A (b + 50) = q201 := hA 50 (by omega)
      have e51 : A (b + 51) = q202 := hA 51 (by omega)
      have e52 : A (b + 52) = q203 := hA 52 (by omega)
      have e53 : A (b + 53) = q204 := hA 53 (by omega)
      refine ⟨fun k hk => ?_, ⟨?_, ?_, ?_, ?_⟩⟩
      · have h9 : k = 0 ∨ k = 1 ∨ k = 2 ∨ k = 3 ∨ k = 4 ∨ k = 5 ∨ k = 6 ∨ k = 7 ∨ k = 8 ∨ k = 9 ∨ k = 10 ∨ k = 11 ∨ k = 12 ∨ k = 13 ∨ k = 14 ∨ k = 15 ∨ k = 16 ∨ k = 17 ∨ k = 18 ∨ k = 19 ∨ k = 20 ∨ k = 21 ∨ k = 22 ∨ k = 23 ∨ k = 24 ∨ k = 25 ∨ k = 26 ∨ k = 27 ∨ k = 28 ∨ k = 29 ∨ k = 30 ∨ k = 31 ∨ k = 32 ∨ k = 33 ∨ k = 34 ∨ k = 35 ∨ k = 36 ∨ k = 37 ∨ k = 38 ∨ k = 39 ∨ k = 40 ∨ k = 41 ∨ k = 42 ∨ k = 43 ∨ k = 44 ∨ k = 45 ∨ k = 46 ∨ k = 47 ∨ k = 48 ∨ k = 49 ∨ k = 50 ∨ k = 51 ∨ k = 52 ∨ k = 53 := c54 hk
        rcases h9 with rfl | rfl | rfl | rfl | rfl | rfl | rfl | rfl | rfl | rfl | rfl | rfl | rfl | rfl | rfl | rfl | rfl | rfl | rfl | rfl | rfl | rfl | rfl | rfl | rfl | rfl | rfl | rfl | rfl | rfl | rfl | rfl | rfl | rfl | rfl | rfl | rfl | rfl | rfl | rfl | rfl | rfl | rfl | rfl | rfl | rfl | rfl | rfl | rfl | rfl | rfl | rfl | rfl | rfl
        · show f232 (A (b + 0)) = some (.inr (4, [.ref (A (b + 1)), .int 0, .int 0, .int 0, .int 0, .int 0]))
          rw [e0, e1]; exact k235
        · show f232 (A (b + 1)) = some (.inl (cy 3, 4, .inr (.inr (.inr (.inr _)))))
          rw [e1]; exact k233
        · show f232 (A (b + 2)) = some (.inr (2, [.ref (A (b + 3)), .ref (A (b + 5)), .ref (A (b + 7)), .ref (A (b + 9)), .ref (A (b + 11)), .ref (A (b + 13)), .int 0, .int 0, .int 1, .int (-1), .int 0]))
          rw [e2, e3, e5, e7, e9, e11, e13]; exact k237
        · show f232 (A (b + 3)) = some (.inr (8, [.int 8, .ref (A (b + 4)), .int 0]))
          rw [e3, e4]; exact k238
        · show f232 (A (b + 4)) = some (.inl (cy 0, 8, .inl (fun _ => 0)))
          rw [e4]; exact k239
        · show f232 (A (b + 5)) = some (.inr (8, [.int 6, .ref (A (b + 6)), .int 0]))
          rw [e5, e6]; exact k240
        · show f232 (A (b + 6)) = some (.inl (cy 0, 66, .inl (fun _ => 0)))
          rw [e6]; exact k241
        · show f232 (A (b + 7)) = some (.inr (8, [.int 7, .ref (A (b + 8)), .int 0]))
          rw [e7, e8]; exact k242
        · show f232 (A (b + 8)) = some (.inl (cy 0, 77, .inl (fun _ => 0)))
          rw [e8]; exact k243
        · show f232 (A (b + 9)) = some (.inr (8, [.int 8, .ref (A (b + 10)), .int 0]))
          rw [e9, e10]; exact k244
        · show f232 (A (b + 10)) = some (.inl (cy 0, 4104, .inl (fun _ => 0)))
          rw [e10]; exact k245
        · show f232 (A (b + 11)) = some (.inr (8, [.int 3, .ref (A (b + 12)), .int 0]))
          rw [e11, e12]; exact k246
        · show f232 (A (b + 12)) = some (.inl (cy 0, 33, .inl (fun _ => 0)))
          rw [e12]; exact k247
        · show f232 (A (b + 13)) = some (.inr (5, [.ref (A (b + 14)), .int 0, .int 0, .int 0, .int (-1), .int (-1), .int 0, .int 0, .int 0]))
          rw [e13, e14]; exact k248
        · show f232 (A (b + 14)) = some (.inl (cy 0, 20, .inl (fun _ => 0)))
          rw [e14]; exact k249
        · show f232 (A (b + 15)) = some (.inr (2, [.ref (A (b + 16)), .ref (A (b + 18)), .ref (A (b + 20)), .ref (A (b + 22)), .ref (A (b + 24)), .ref (A (b + 26)), .int 0, .int 0, .int 1, .int (-1), .int 0]))
          rw [e15, e16, e18, e20, e22, e24, e26]; exact k250
        · show f232 (A (b + 16)) = some (.inr (8, [.int 8, .ref (A (b + 17)), .int 0]))
          rw [e16, e17]; exact k251
        · show f232 (A (b + 17)) = some (.inl (cy 0, 8, .inl (fun _ => 0)))
          rw [e17]; exact k252
        · show f232 (A (b + 18)) = some (.inr (8, [.int 6, .ref (A (b + 19)), .int 0]))
          rw [e18, e19]; exact k253
        · show f232 (A (b + 19)) = some (.inl (cy 0, 66, .inl (fun _ => 0)))
          rw [e19]; exact k254
        · show f232 (A (b + 20)) = some (.inr (8, [.int 7, .ref (A (b + 21)), .int 0]))
          rw [e20, e21]; exact k255
        · show f232 (A (b + 21)) = some (.inl (cy 0, 77, .inl (fun _ => 0)))
          rw [e21]; exact k256
        · show f232 (A (b + 22)) = some (.inr (8, [.int 8, .ref (A (b + 23)), .int 0]))
          rw [e22, e23]; exact k257
        · show f232 (A (b + 23)) = some (.inl (cy 0, 4104, .inl (fun _ => 0)))
          rw [e23]; exact k258
        · show f232 (A (b + 24)) = some (.inr (8, [.int 3, .ref (A (b + 25)), .int 0]))
          rw [e24, e25]; exact k259
        · show f232 (A (b + 25)) = some (.inl (cy 0, 33, .inl (fun _ => 0)))
          rw [e25]; exact k260
        · show f232 (A (b + 26)) = some (.inr (5, [.ref (A (b + 27)), .int 0, .int 0, .int 0, .int (-1), .int (-1), .int 0, .int 0, .int 0]))
          rw [e26, e27]; exact k261
        · show f232 (A (b + 27)) = some (.inl (cy 0, 20, .inl (fun _ => 0)))
          rw [e27]; exact k262
        · show f232 (A (b + 28)) = some (.inr (2, [.ref (A (b + 29)), .ref (A (b + 31)), .ref (A (b + 33)), .ref (A (b + 35)), .ref (A (b + 37)), .ref (A (b + 39)), .int 0, .int 0, .int 1, .int (-1), .int 0]))
          rw [e28, e29, e31, e33, e35, e37, e39]; exact k263
        · show f232 (A (b + 29)) = some (.inr (8, [.int 8, .ref (A (b + 30)), .int 0]))
          rw [e29, e30]; exact k264
        · show f232 (A (b + 30)) = some (.inl (cy 0, 8, .inl (fun _ => 0)))
          rw [e30]; exact k265
        · show f232 (A (b + 31)) = some (.inr (8, [.int 6, .ref (A (b + 32)), .int 0]))
          rw [e31, e32]; exact k266
        · show f232 (A (b + 32)) = some (.inl (cy 0, 66, .inl (fun _ => 0)))
          rw [e32]; exact k267
        · show f232 (A (b + 33)) = some (.inr (8, [.int 7, .ref (A (b + 34)), .int 0]))
          rw [e33, e34]; exact k268
        · show f232 (A (b + 34)) = some (.inl (cy 0, 77, .inl (fun _ => 0)))
          rw [e34]; exact k269
        · show f232 (A (b + 35)) = some (.inr (8, [.int 8, .ref (A (b + 36)), .int 0]))
          rw [e35, e36]; exact k270
        · show f232 (A (b + 36)) = some (.inl (cy 0, 4104, .inl (fun _ => 0)))
          rw [e36]; exact k271
        · show f232 (A (b + 37)) = some (.inr (8, [.int 3, .ref (A (b + 38)), .int 0]))
          rw [e37, e38]; exact k272
        · show f232 (A (b + 38)) = some (.inl (cy 0, 33, .inl (fun _ => 0)))
          rw [e38]; exact k273
        · show f232 (A (b + 39)) = some (.inr (5, [.ref (A (b + 40)), .int 0, .int 0, .int 0, .int (-1), .int (-1), .int 0, .int 0, .int 0]))
          rw [e39, e40]; exact k274
        · show f232 (A (b + 40)) = some (.inl (cy 0, 20, .inl (fun _ => 0)))
          rw [e40]; exact k275
        · show f232 (A (b + 41)) = some (.inr (2, [.ref (A (b + 42)), .ref (A (b + 44)), .ref (A (b + 46)), .ref (A (b + 48)), .ref (A (b + 50)), .ref (A (b + 52)), .int 0, .int 0, .int 1, .int (-1), .int 0]))
          rw [e41, e42, e44, e46, e48, e50, e52]; exact k276
        · show f232 (A (b + 42)) = some (.inr (8, [.int 8, .ref (A (b + 43)), .int 0]))
          rw [e42, e43]; exact k277
        · show f232 (A (b + 43)) = some (.inl (cy 0, 8, .inl (fun _ => 0)))
          rw [e43]; exact k278
        · show f232 (A (b + 44)) = some (.inr (8, [.int 6, .ref (A (b + 45)), .int 0]))
          rw [e44, e45]; exact k279
        · show f232 (A (b + 45)) = some (.inl (cy 0, 66, .inl (fun _ => 0)))
          rw [e45]; exact k280
        · show f232 (A (b + 46)) = some (.inr (8, [.int 7, .ref (A (b + 47)), .int 0]))
          rw [e46, e47]; exact k281
        · show f232 (A (b + 47)) = some (.inl (cy 0, 77, .inl (fun _ => 0)))
          rw [e47]; exact k282
        · show f232 (A (b + 48)) = some (.inr (8, [.int 8, .ref (A (b + 49)), .int 0]))
          rw [e48, e49]; exact k283
        · show f232 (A (b + 49)) = some (.inl (cy 0, 4104, .inl (fun _ => 0)))
          rw [e49]; exact k284
        · show f232 (A (b + 50)) = some (.inr (8, [.int 3, .ref (A (b + 51)), .int 0]))
          rw [e50, e51]; exact k285
        · show f232 (A (b + 51)) = some (.inl (cy 0, 33, .inl (fun _ => 0)))
          rw [e51]; exact k286
        · show f232 (A (b + 52)) = some (.inr (5, [.ref (A (b + 53)), .int 0, .int 0, .int 0, .int (-1), .int (-1), .int 0, .int 0, .int 0]))
          rw [e52, e53]; exact k287
        · show f232 (A (b + 53)) = some (.inl (cy 0, 20, .inl (fun _ => 0)))
          rw [e53]; exact k288
      · rw [e2]; rfl
      · rw [e15]; rfl
      · rw [e28]; rfl
      · rw [e41]; rfl
  exact g_vret C0 G hr dX2_init_67 (Nat.le_of_ble_eq_true rfl) (Nat.le_of_ble_eq_true rfl) (hP9)
set_option maxRecDepth 100000 in
theorem k_X8_initG {l : Launch} (hfl : l.stackTraces = false) {D : va_G} {cy : Nat → ClassId} {f : Hf} {sz : Nat} {th : Nat} (h_t : f th = some (.inr (10, [.null, .null, .null, .null, .null, .null, .null, .int 0, .int 0, .int 0]))) : hMet l yX8_init cX8_init 1 none { frames := 4, cells := 124, slots := 37030, locals := 77 } D (hTy cy) f sz [.ref th] (hQv (fun u => ∃ (A : Nat → Nat) (q q2 : Nat → Option Nat) (lg ln lst len sv sn sst sen tx bf tn tp r0 r0e r1 r1e : Nat), (∀ k, A k < A (k + 1)) ∧ MW A 0 cy q (fun _ => 0) iS u ∧ HQ A 0 q ∧ MW A 54 cy q2 (fun _ => 0) iS u ∧ HQ A 54 q2 ∧ sz ≤ A 0 ∧ A 107 < lg ∧ lg < ln ∧ ln < lst ∧ lst < len ∧ len < sv ∧ sv < sn ∧ sn < sst ∧ sst < sen ∧ sen < tx ∧ tx < bf ∧ bf < tn ∧ tn < tp ∧ tp < r0 ∧ r0 < r0e ∧ r0e < r1 ∧ r1 < r1e ∧ u lg = some (.inr (3, [.ref ln, .ref lst, .ref len, .int 0, .int 0, .int 0, .int 0, .int 0, .int 0])) ∧ u ln = some (.inr (7, [.int 0, .int 0, .int 0, .int 0, .int 0, .int 0, .int 0, .int 0, .int 0])) ∧ u lst = some (.inl (cy 4, 512, .inr (.inr (.inr (.inr (sfl ln 512)))))) ∧ u len = some (.inl (cy 0, 512, .inl (fun _ => 0))) ∧ u sv = some (.inr (3, [.ref sn, .ref sst, .ref sen, .int 0, .int 0, .int 0, .int 0, .int 0, .int 0])) ∧ u sn = some (.inr (7, [.int 0, .int 0, .int 0, .int 0, .int 0, .int 0, .int 0, .int 0, .int 0])) ∧ u sst = some (.inl (cy 4, 512, .inr (.inr (.inr (.inr (sfl sn 512)))))) ∧ u sen = some (.inl (cy 0, 512, .inl (fun _ => 0))) ∧ u tx = some (.inr (9, [.ref bf, .ref tn, .ref tp, .int 0, .int 0])) ∧ u bf = some (.inl (cy 1, 60, .inl (fun _ => 0))) ∧ u tn = some (.inr (7, [.int 0, .int 0, .int 0, .int 0, .int 0, .int 0, .int 0, .int 0, .int 0])) ∧ u tp = some (.inl (cy 4, 60, .inr (.inr (.inr (.inr (sfl tn 60)))))) ∧ u r0 = some (.inr (6, [.ref r0e, .int 0, .int 0, .int 0])) ∧ u r0e = some (.inl (cy 2, 20, .inr (.inr (.inl (fun _ => 0))))) ∧ u r1 = some (.inr (6, [.ref r1e, .int 0, .int 0, .int 0])) ∧ u r1e = some (.inl (cy 2, 20, .inr (.inr (.inl (fun _ => 0))))) ∧ u th = some (.inr (10, [.ref (A 0), .ref (A 54), .ref lg, .ref sv, .ref tx, .ref r0, .ref r1, .int (-1), .int (-1), .int 0])) ∧ hFr f u th) D f sz) hNo := by
  refine h_enter (by decide) hfl (Nat.le_of_ble_eq_true rfl) ?_
  intro p9 e9 s9 m9 b9 t9 c9 hsz C0 hr hnm G ls hl
  have hx := C0.1.1
  have hb := C0.1.2.1
  have Gz := G
  have hin : t9.name = "<init>" := hnm
  have hl : lv_has ls 1 [(0, .ref th)] := hl
  refine lv_aload_n hx hb dX8_init_0 rfl (lv_at hl 0 rfl) ?_
  refine W.objInit hx hb C0.1.2.2.2.1 (C0.2.2.2.1.1 _ mm_X8_1 rfl _) (C0.2.2.2.1.1 _ mi_java_lang_Object__init____V rfl _) (C0.2.2.2.1.1 _ mc_objinit rfl _) rfl (by rw [C0.1.2.2.1]; exact hl.1) rfl dX8_init_1 (Nat.le_of_ble_eq_true rfl) (Nat.le_of_ble_eq_true rfl) ?_
  refine W.eq (g2 := F0 m9 4 ls []) rfl ?_
  refine lv_aload_n hx hb dX8_init_4 rfl (lv_at hl 0 rfl) ?_
  have zq11 := G.2.1
  have z13 : th < _ := (G.1 _ _ h_t).1.lt
  refine g_new C0 G (ci := 4) (fs := [.null, .int 0, .int 0, .int 0, .int 0, .int 0]) rfl hiX2 tyX2 tyX2_ok mk_X8_7 mn_X2 mz_X2 (fun j hj => by rcases (show j = 0 ∨ j = 1 ∨ j = 2 ∨ j = 3 ∨ j = 4 ∨ j = 5 by omega) with rfl | rfl | rfl | rfl | rfl | rfl <;> rfl) (Nat.le_of_ble_eq_true rfl) (Nat.le_of_ble_eq_true rfl) dX8_init_5 (fun q11 H f12 nq11 hf12 G hzq11 => ?_)
  have k14 : f12 q11 = some (.inr (4, [.null, .int 0, .int 0, .int 0, .int 0, .int 0])) := hus hf12
  refine lv_dup hx hb dX8_init_8 rfl ?_
  have z15 : q11 < _ := (G.1 _ _ k14).1.lt
  refine g_cV C0 G (g_runI C0 G (rest := [.ref q11, .ref th]) (k_X2_initG hfl k14) hY_X2_init mm_X8_9 mi_X2_init rfl ⟨(Nat.le_of_ble_eq_true rfl), (Nat.le_of_ble_eq_true rfl)⟩ rfl hl.1 rfl (Nat.le_of_ble_eq_true rfl) dX8_init_9 ⟨(Nat.le_of_ble_eq_true rfl), (Nat.le_of_ble_eq_true rfl)⟩) (kx_no rfl) (fun u17 H locs hp16 G => ?_)
  obtain ⟨ma_1, mq_1, me_1, ms_1, mm_1, mf_1, mr_1⟩ := hp16
  have ml_1 : ma_1 1 < ma_1 53 := mono_lt mm_1 _ _ (by omega)
  have mz_1 : u17 (ma_1 53) = some (.inl (cy 0, 20, .inl (fun _ => 0))) := (mf_1 ma_1 0 (fun k _ => by rw [Nat.zero_add])).1 53 (by omega)
  have k18 : u17 th = some (.inr (10, [.null, .null, .null, .null, .null, .null, .null, .int 0, .int 0, .int 0])) := mr_1 _ _ (by omega) (hup hf12 (by omega) h_t)
  refine g_putF C0 G hin k18 rfl hiX8 tyX8 tyX8_ok nmX8 0 (by decide) mf_X8_10 rfl rfl rfl rfl rfl (Nat.le_of_ble_eq_true rfl) dX8_init_12 (fun H locs f19 hf19 G => ?_)
  have k20 : f19 th = some (.inr (10, [.ref q11, .null, .null, .null, .null, .null, .null, .int 0, .int 0, .int 0])) := hus hf19
  refine lv_aload_n hx hb dX8_init_15 rfl (lv_at hl 0 rfl) ?_
  have zq21 := G.2.1
  have k23 : f19 (ma_1 53) = some (.inl (cy 0, 20, .inl (fun _ => 0))) := hup hf19 (by omega) mz_1
  have z24 : (ma_1 53) < _ := (G.1 _ _ k23).1.lt
  refine g_new C0 G (ci := 4) (fs := [.null, .int 0, .int 0, .int 0, .int 0, .int 0]) rfl hiX2 tyX2 tyX2_ok mk_X8_7 mn_X2 mz_X2 (fun j hj => by rcases (show j = 0 ∨ j = 1 ∨ j = 2 ∨ j = 3 ∨ j = 4 ∨ j = 5 by omega) with rfl | rfl | rfl | rfl | rfl | rfl <;> rfl) (Nat.le_of_ble_eq_true rfl) (Nat.le_of_ble_eq_true rfl) dX8_init_16 (fun q21 H f22 nq21 hf22 G hzq21 => ?_)
  have k25 : f22 q21 = some (.inr (4, [.null, .int 0, .int 0, .int 0, .int 0, .int 0])) := hus hf22
  refine lv_dup hx hb dX8_init_19 rfl ?_
  have z26 : q21 < _ := (G.1 _ _ k25).1.lt
  refine g_cV C0 G (g_runI C0 G (rest := [.ref q21, .ref th]) (k_X2_initG hfl k25) hY_X2_init mm_X8_9 mi_X2_init rfl ⟨(Nat.le_of_ble_eq_true rfl), (Nat.le_of_ble_eq_true rfl)⟩ rfl hl.1 rfl (Nat.le_of_ble_eq_true rfl) dX8_init_20 ⟨(Nat.le_of_ble_eq_true rfl), (Nat.le_of_ble_eq_true rfl)⟩) (kx_no rfl) (fun u28 H locs hp27 G => ?_)
  obtain ⟨ma_2, mq_2, me_2, ms_2, mm_2, mf_2, mr_2⟩ := hp27
  have ml_2 : ma_2 1 < ma_2 53 := mono_lt mm_2 _ _ (by omega)
  have mz_2 : u28 (ma_2 53) = some (.inl (cy 0, 20, .inl (fun _ => 0))) := (mf_2 ma_2 0 (fun k _ => by rw [Nat.zero_add])).1 53 (by omega)
  have k29 : u28 th = some (.inr (10, [.ref q11, .null, .null, .null, .null, .null, .null, .int 0, .int 0, .int 0])) := mr_2 _ _ (by omega) (hup hf22 (by omega) k20)
  refine g_putF C0 G hin k29 rfl hiX8 tyX8 tyX8_ok nmX8 1 (by decide) mf_X8_16 rfl rfl rfl rfl rfl (Nat.le_of_ble_eq_true rfl) dX8_init_23 (fun H locs f30 hf30 G => ?_)
  have k31 : f30 th = some (.inr (10, [.ref q11, .ref q21, .null, .null, .null, .null, .null, .int 0, .int 0, .int 0])) := hus hf30
  refine lv_aload_n hx hb dX8_init_26 rfl (lv_at hl 0 rfl) ?_
  have zq32 := G.2.1
  have k34 : f30 (ma_2 53) = some (.inl (cy 0, 20, .inl (fun _ => 0))) := hup hf30 (by omega) mz_2
  have z35 : (ma_2 53) < _ := (G.1 _ _ k34).1.lt
  refine g_new C0 G (ci := 3) (fs := [.null, .null, .null, .int 0, .int 0, .int 0, .int 0, .int 0, .int 0]) rfl hiX1 tyX1 tyX1_ok mk_X8_19 mn_X1 mz_X1 (fun j hj => by rcases (show j = 0 ∨ j = 1 ∨ j = 2 ∨ j = 3 ∨ j = 4 ∨ j = 5 ∨ j = 6 ∨ j = 7 ∨ j = 8 by omega) with rfl | rfl | rfl | rfl | rfl | rfl | rfl | rfl | rfl <;> rfl) (Nat.le_of_ble_eq_true rfl) (Nat.le_of_ble_eq_true rfl) dX8_init_27 (fun q32 H f33 nq32 hf33 G hzq32 => ?_)
  have k36 : f33 q32 = some (.inr (3, [.null, .null, .null, .int 0, .int 0, .int 0, .int 0, .int 0, .int 0])) := hus hf33
  refine lv_dup hx hb dX8_init_30 rfl ?_
  have z37 : q32 < _ := (G.1 _ _ k36).1.lt
  refine g_cV C0 G (g_runI C0 G (rest := [.ref q32, .ref th]) (k_X1_init hfl  k36) hY_X1_init mm_X8_21 mi_X1_init rfl ⟨(Nat.le_of_ble_eq_true rfl), (Nat.le_of_ble_eq_true rfl)⟩ rfl hl.1 rfl (Nat.le_of_ble_eq_true rfl) dX8_init_31 ⟨(Nat.le_of_ble_eq_true rfl), (Nat.le_of_ble_eq_true rfl)⟩) (kx_no rfl) (fun u39 H locs hp38 G => ?_)
  obtain ⟨q40, q41, q42, o43, o44, o45, k46, k47, k48, k49, fr50⟩ := hp38
  have k51 : u39 th = some (.inr (10, [.ref q11, .ref q21, .null, .null, .null, .null, .null, .int 0, .int 0, .int 0])) := fr50 _ _ (by omega) (hupN hf33 nq32 k31)
  refine g_putF C0 G hin k51 rfl hiX8 tyX8 tyX8_ok nmX8 2 (by decide) mf_X8_22 rfl rfl rfl rfl rfl (Nat.le_of_ble_eq_true rfl) dX8_init_34 (fun H locs f52 hf52 G => ?_)
  have k53 : f52 th = some (.inr (10, [.ref q11, .ref q21, .ref q32, .null, .null, .null, .null, .int 0, .int 0, .int 0])) := hus hf52
  refine lv_aload_n hx hb dX8_init_37 rfl (lv_at hl 0 rfl) ?_
  have zq54 := G.2.1
  have k56 : f52 q42 = some (.inl (cy 0, 512, .inl (fun _ => 0))) := hupD hf52 k51 k48 rfl
  have z57 : q42 < _ := (G.1 _ _ k56).1.lt
  refine g_new C0 G (ci := 3) (fs := [.null, .null, .null, .int 0, .int 0, .int 0, .int 0, .int 0, .int 0]) rfl hiX1 tyX1 tyX1_ok mk_X8_19 mn_X1 mz_X1 (fun j hj => by rcases (show j = 0 ∨ j = 1 ∨ j = 2 ∨ j = 3 ∨ j = 4 ∨ j = 5 ∨ j = 6 ∨ j = 7 ∨ j = 8 by omega) with rfl | rfl | rfl | rfl | rfl | rfl | rfl | rfl | rfl <;> rfl) (Nat.le_of_ble_eq_true rfl) (Nat.le_of_ble_eq_true rfl) dX8_init_38 (fun q54 H f55 nq54 hf55 G hzq54 => ?_)
  have k58 : f55 q54 = some (.inr (3, [.null, .null, .null, .int 0, .int 0, .int 0, .int 0, .int 0, .int 0])) := hus hf55
  refine lv_dup hx hb dX8_init_41 rfl ?_
  have z59 : q54 < _ := (G.1 _ _ k58).1.lt
  refine g_cV C0 G (g_runI C0 G (rest := [.ref q54, .ref th]) (k_X1_init hfl  k58) hY_X1_init mm_X8_21 mi_X1_init rfl ⟨(Nat.le_of_ble_eq_true rfl), (Nat.le_of_ble_eq_true rfl)⟩ rfl hl.1 rfl (Nat.le_of_ble_eq_true rfl) dX8_init_42 ⟨(Nat.le_of_ble_eq_true rfl), (Nat.le_of_ble_eq_true rfl)⟩) (kx_no rfl) (fun u61 H locs hp60 G => ?_)
  obtain ⟨q62, q63, q64, o65, o66, o67, k68, k69, k70, k71, fr72⟩ := hp60
  have k73 : u61 th = some (.inr (10, [.ref q11, .ref q21, .ref q32, .null, .null, .null, .null, .int 0, .int 0, .int 0])) := fr72 _ _ (by omega) (hupN hf55 nq54 k53)
  refine g_putF C0 G hin k73 rfl hiX8 tyX8 tyX8_ok nmX8 3 (by decide) mf_X8_26 rfl rfl rfl rfl rfl (Nat.le_of_ble_eq_true rfl) dX8_init_45 (fun H locs f74 hf74 G => ?_)
  have k75 : f74 th = some (.inr (10, [.ref q11, .ref q21, .ref q32, .ref q54, .null, .null, .null, .int 0, .int 0, .int 0])) := hus hf74
  refine lv_aload_n hx hb dX8_init_48 rfl (lv_at hl 0 rfl) ?_
  have zq76 := G.2.1
  have k78 : f74 q64 = some (.inl (cy 0, 512, .inl (fun _ => 0))) := hupD hf74 k73 k70 rfl
  have z79 : q64 < _ := (G.1 _ _ k78).1.lt
  refine g_new C0 G (ci := 9) (fs := [.null, .null, .null, .int 0, .int 0]) rfl hiX7 tyX7 tyX7_ok mk_X8_29 mn_X7 mz_X7 (fun j hj => by rcases (show j = 0 ∨ j = 1 ∨ j = 2 ∨ j = 3 ∨ j = 4 by omega) with rfl | rfl | rfl | rfl | rfl <;> rfl) (Nat.le_of_ble_eq_true rfl) (Nat.le_of_ble_eq_true rfl) dX8_init_49 (fun q76 H f77 nq76 hf77 G hzq76 => ?_)
  have k80 : f77 q76 = some (.inr (9, [.null, .null, .null, .int 0, .int 0])) := hus hf77
  refine lv_dup hx hb dX8_init_52 rfl ?_
  have z81 : q76 < _ := (G.1 _ _ k80).1.lt
  refine g_cV C0 G (g_runI C0 G (rest := [.ref q76, .ref th]) (k_X7_init hfl  k80) hY_X7_init mm_X8_31 mi_X7_init rfl ⟨(Nat.le_of_ble_eq_true rfl), (Nat.le_of_ble_eq_true rfl)⟩ rfl hl.1 rfl (Nat.le_of_ble_eq_true rfl) dX8_init_53 ⟨(Nat.le_of_ble_eq_true rfl), (Nat.le_of_ble_eq_true rfl)⟩) (kx_no rfl) (fun u83 H locs hp82 G => ?_)
  obtain ⟨q84, q85, q86, o87, o88, o89, k90, k91, k92, k93, fr94⟩ := hp82
  have k95 : u83 th = some (.inr (10, [.ref q11, .ref q21, .ref q32, .ref q54, .null, .null, .null, .int 0, .int 0, .int 0])) := fr94 _ _ (by omega) (hupN hf77 nq76 k75)
  refine g_putF C0 G hin k95 rfl hiX8 tyX8 tyX8_ok nmX8 4 (by decide) mf_X8_32 rfl rfl rfl rfl rfl (Nat.le_of_ble_eq_true rfl) dX8_init_56 (fun H locs f96 hf96 G => ?_)
  have k97 : f96 th = some (.inr (10, [.ref q11, .ref q21, .ref q32, .ref q54, .ref q76, .null, .null, .int 0, .int 0, .int 0])) := hus hf96
  refine lv_aload_n hx hb dX8_init_59 rfl (lv_at hl 0 rfl) ?_
  have zq98 := G.2.1
  have k100 : f96 q86 = some (.inl (cy 4, 60, .inr (.inr (.inr (.inr (sfl q85 60)))))) := hupD hf96 k95 k92 rfl
  have z101 : q86 < _ := (G.1 _ _ k100).1.lt
  refine g_new C0 G (ci := 6) (fs := [.null, .int 0, .int 0, .int 0]) rfl hiX4 tyX4 tyX4_ok mk_X8_36 mn_X4 mz_X4 (fun j hj => by rcases (show j = 0 ∨ j = 1 ∨ j = 2 ∨ j = 3 by omega) with rfl | rfl | rfl | rfl <;> rfl) (Nat.le_of_ble_eq_true rfl) (Nat.le_of_ble_eq_true rfl) dX8_init_60 (fun q98 H f99 nq98 hf99 G hzq98 => ?_)
  have k102 : f99 q98 = some (.inr (6, [.null, .int 0, .int 0, .int 0])) := hus hf99
  refine lv_dup hx hb dX8_init_63 rfl ?_
  have z103 : q98 < _ := (G.1 _ _ k102).1.lt
  refine g_cV C0 G (g_runIN C0 G (rest := [.ref q98, .ref th]) (k_X4_init hfl  k102) hY_X4_init mq_X8_38 mi_X4_init rfl ⟨(Nat.le_of_ble_eq_true rfl), (Nat.le_of_ble_eq_true rfl)⟩ rfl hl.1 rfl (Nat.le_of_ble_eq_true rfl) dX8_init_64 ⟨(Nat.le_of_ble_eq_true rfl), (Nat.le_of_ble_eq_true rfl)⟩) (kx_no rfl) (fun u105 H locs hp104 G => ?_)
  obtain ⟨q106, o107, k108, k109, fr110⟩ := hp104
  have k111 : u105 th = some (.inr (10, [.ref q11, .ref q21, .ref q32, .ref q54, .ref q76, .null, .null, .int 0, .int 0, .int 0])) := fr110 _ _ (by omega) (hupN hf99 nq98 k97)
  refine g_putF C0 G hin k111 rfl hiX8 tyX8 tyX8_ok nmX8 5 (by decide) mf_X8_39 rfl rfl rfl rfl rfl (Nat.le_of_ble_eq_true rfl) dX8_init_67 (fun H locs f112 hf112 G => ?_)
  have k113 : f112 th = some (.inr (10, [.ref q11, .ref q21, .ref q32, .ref q54, .ref q76, .ref q98, .null, .int 0, .int 0, .int 0])) := hus hf112
  refine lv_aload_n hx hb dX8_init_70 rfl (lv_at hl 0 rfl) ?_
  have zq114 := G.2.1
  have k116 : f112 q106 = some (.inl (cy 2, 20, .inr (.inr (.inl (fun _ => 0))))) := hupD hf112 k111 k108 rfl
  have z117 : q106 < _ := (G.1 _ _ k116).1.lt
  refine g_new C0 G (ci := 6) (fs := [.null, .int 0, .int 0, .int 0]) rfl hiX4 tyX4 tyX4_ok mk_X8_36 mn_X4 mz_X4 (fun j hj => by rcases (show j = 0 ∨ j = 1 ∨ j = 2 ∨ j = 3 by omega) with rfl | rfl | rfl | rfl <;> rfl) (Nat.le_of_ble_eq_true rfl) (Nat.le_of_ble_eq_true rfl) dX8_init_71 (fun q114 H f115 nq114 hf115 G hzq114 => ?_)
  have k118 : f115 q114 = some (.inr (6, [.null, .int 0, .int 0, .int 0])) := hus hf115
  refine lv_dup hx hb dX8_init_74 rfl ?_
  have z119 : q114 < _ := (G.1 _ _ k118).1.lt
  refine g_cV C0 G (g_runIN C0 G (rest := [.ref q114, .ref th]) (k_X4_init hfl  k118) hY_X4_init mq_X8_38 mi_X4_init rfl ⟨(Nat.le_of_ble_eq_true rfl), (Nat.le_of_ble_eq_true rfl)⟩ rfl hl.1 rfl (Nat.le_of_ble_eq_true rfl) dX8_init_75 ⟨(Nat.le_of_ble_eq_true rfl), (Nat.le_of_ble_eq_true rfl)⟩) (kx_no rfl) (fun u121 H locs hp120 G => ?_)
  obtain ⟨q122, o123, k124, k125, fr126⟩ := hp120
  have k127 : u121 th = some (.inr (10, [.ref q11, .ref q21, .ref q32, .ref q54, .ref q76, .ref q98, .null, .int 0, .int 0, .int 0])) := fr126 _ _ (by omega) (hupN hf115 nq114 k113)
  refine g_putF C0 G hin k127 rfl hiX8 tyX8 tyX8_ok nmX8 6 (by decide) mf_X8_43 rfl rfl rfl rfl rfl (Nat.le_of_ble_eq_true rfl) dX8_init_78 (fun H locs f128 hf128 G => ?_)
  have k129 : f128 th = some (.inr (10, [.ref q11, .ref q21, .ref q32, .ref q54, .ref q76, .ref q98, .ref q114, .int 0, .int 0, .int 0])) := hus hf128
  refine lv_aload_n hx hb dX8_init_81 rfl (lv_at hl 0 rfl) ?_
  refine lv_iconst (v := (-1)) hx hb dX8_init_82 (by decide) ?_
  refine g_put C0 G k129 rfl hiX8 tyX8 tyX8_ok nmX8 7 (by decide) mf_X8_46 rfl rfl rfl rfl (Nat.le_of_ble_eq_true rfl) dX8_init_83 (fun H locs f130 hf130 G => ?_)
  have k131 : f130 th = some (.inr (10, [.ref q11, .ref q21, .ref q32, .ref q54, .ref q76, .ref q98, .ref q114, .int (-1), .int 0, .int 0])) := hus hf130
  refine lv_aload_n hx hb dX8_init_86 rfl (lv_at hl 0 rfl) ?_
  refine lv_iconst (v := (-1)) hx hb dX8_init_87 (by decide) ?_
  refine g_put C0 G k131 rfl hiX8 tyX8 tyX8_ok nmX8 8 (by decide) mf_X8_50 rfl rfl rfl rfl (Nat.le_of_ble_eq_true rfl) dX8_init_88 (fun H locs f132 hf132 G => ?_)
  have k133 : f132 th = some (.inr (10, [.ref q11, .ref q21, .ref q32, .ref q54, .ref q76, .ref q98, .ref q114, .int (-1), .int (-1), .int 0])) := hus hf132
  refine lv_aload_n hx hb dX8_init_91 rfl (lv_at hl 0 rfl) ?_
  refine lv_iconst (v := 0) hx hb dX8_init_92 (by decide) ?_
  refine g_put C0 G k133 rfl hiX8 tyX8 tyX8_ok nmX8 9 (by decide) mf_X8_53 rfl rfl rfl rfl (Nat.le_of_ble_eq_true rfl) dX8_init_93 (fun H locs f134 hf134 G => ?_)
  have k135 : f134 th = some (.inr (10, [.ref q11, .ref q21, .ref q32, .ref q54, .ref q76, .ref q98, .ref q114, .int (-1), .int (-1), .int 0])) := hus hf134
  have k136 : f134 q32 = some (.inr (3, [.ref q40, .ref q41, .ref q42, .int 0, .int 0, .int 0, .int 0, .int 0, .int 0])) := hupD hf134 k133 (hupD hf132 k131 (hupD hf130 k129 (hupD hf128 k127 (fr126 _ _ (by omega) (hupN hf115 nq114 (hupD hf112 k111 (fr110 _ _ (by omega) (hupN hf99 nq98 (hupD hf96 k95 (fr94 _ _ (by omega) (hupN hf77 nq76 (hupD hf74 k73 (fr72 _ _ (by omega) (hupN hf55 nq54 (hupD hf52 k51 k49 rfl))) rfl))) rfl))) rfl))) rfl) rfl) rfl) rfl
  have k137 : f134 q40 = some (.inr (7, [.int 0, .int 0, .int 0, .int 0, .int 0, .int 0, .int 0, .int 0, .int 0])) := hupD hf134 k133 (hupD hf132 k131 (hupD hf130 k129 (hupD hf128 k127 (fr126 _ _ (by omega) (hupN hf115 nq114 (hupD hf112 k111 (fr110 _ _ (by omega) (hupN hf99 nq98 (hupD hf96 k95 (fr94 _ _ (by omega) (hupN hf77 nq76 (hupD hf74 k73 (fr72 _ _ (by omega) (hupN hf55 nq54 (hupD hf52 k51 k46 rfl))) rfl))) rfl))) rfl))) rfl) rfl) rfl) rfl
  have k138 : f134 q41 = some (.inl (cy 4, 512, .inr (.inr (.inr (.inr (sfl q40 512)))))) := hupD hf134 k133 (hupD hf132 k131 (hupD hf130 k129 (hupD hf128 k127 (fr126 _ _ (by omega) (hupN hf115 nq114 (hupD hf112 k111 (fr110 _ _ (by omega) (hupN hf99 nq98 (hupD hf96 k95 (fr94 _ _ (by omega) (hupN hf77 nq76 (hupD hf74 k73 (fr72 _ _ (by omega) (hupN hf55 nq54 (hupD hf52 k51 k47 rfl))) rfl))) rfl))) rfl))) rfl) rfl) rfl) rfl
  have k139 : f134 q42 = some (.inl (cy 0, 512, .inl (fun _ => 0))) := hupD hf134 k133 (hupD hf132 k131 (hupD hf130 k129 (hupD hf128 k127 (fr126 _ _ (by omega) (hupN hf115 nq114 (hupD hf112 k111 (fr110 _ _ (by omega) (hupN hf99 nq98 (hupD hf96 k95 (fr94 _ _ (by omega) (hupN hf77 nq76 (hupD hf74 k73 (fr72 _ _ (by omega) (hupN hf55 nq54 k56)) rfl))) rfl))) rfl))) rfl) rfl) rfl) rfl
  have k140 : f134 q54 = some (.inr (3, [.ref q62, .ref q63, .ref q64, .int 0, .int 0, .int 0, .int 0, .int 0, .int 0])) := hupD hf134 k133 (hupD hf132 k131 (hupD hf130 k129 (hupD hf128 k127 (fr126 _ _ (by omega) (hupN hf115 nq114 (hupD hf112 k111 (fr110 _ _ (by omega) (hupN hf99 nq98 (hupD hf96 k95 (fr94 _ _ (by omega) (hupN hf77 nq76 (hupD hf74 k73 k71 rfl))) rfl))) rfl))) rfl) rfl) rfl) rfl
  have k141 : f134 q62 = some (.inr (7, [.int 0, .int 0, .int 0, .int 0, .int 0, .int 0, .int 0, .int 0, .int 0])) := hupD hf134 k133 (hupD hf132 k131 (hupD hf130 k129 (hupD hf128 k127 (fr126 _ _ (by omega) (hupN hf115 nq114 (hupD hf112 k111 (fr110 _ _ (by omega) (hupN hf99 nq98 (hupD hf96 k95 (fr94 _ _ (by omega) (hupN hf77 nq76 (hupD hf74 k73 k68 rfl))) rfl))) rfl))) rfl) rfl) rfl) rfl
  have k142 : f134 q63 = some (.inl (cy 4, 512, .inr (.inr (.inr (.inr (sfl q62 512)))))) := hupD hf134 k133 (hupD hf132 k131 (hupD hf130 k129 (hupD hf128 k127 (fr126 _ _ (by omega) (hupN hf115 nq114 (hupD hf112 k111 (fr110 _ _ (by omega) (hupN hf99 nq98 (hupD hf96 k95 (fr94 _ _ (by omega) (hupN hf77 nq76 (hupD hf74 k73 k69 rfl))) rfl))) rfl))) rfl) rfl) rfl) rfl
  have k143 : f134 q64 = some (.inl (cy 0, 512, .inl (fun _ => 0))) := hupD hf134 k133 (hupD hf132 k131 (hupD hf130 k129 (hupD hf128 k127 (fr126 _ _ (by omega) (hupN hf115 nq114 (hupD hf112 k111 (fr110 _ _ (by omega) (hupN hf99 nq98 (hupD hf96 k95 (fr94 _ _ (by omega) (hupN hf77 nq76 k78)) rfl))) rfl))) rfl) rfl) rfl) rfl
  have k144 : f134 q76 = some (.inr (9, [.ref q84, .ref q85, .ref q86, .int 0, .int 0])) := hupD hf134 k133 (hupD hf132 k131 (hupD hf130 k129 (hupD hf128 k127 (fr126 _ _ (by omega) (hupN hf115 nq114 (hupD hf112 k111 (fr110 _ _ (by omega) (hupN hf99 nq98 (hupD hf96 k95 k93 rfl))) rfl))) rfl) rfl) rfl) rfl
  have k145 : f134 q84 = some (.inl (cy 1, 60, .inl (fun _ => 0))) := hupD hf134 k133 (hupD hf132 k131 (hupD hf130 k129 (hupD hf128 k127 (fr126 _ _ (by omega) (hupN hf115 nq114 (hupD hf112 k111 (fr110 _ _ (by omega) (hupN hf99 nq98 (hupD hf96 k95 k90 rfl))) rfl))) rfl) rfl) rfl) rfl
  have k146 : f134 q85 = some (.inr (7, [.int 0, .int 0, .int 0, .int 0, .int 0, .int 0, .int 0, .int 0, .int 0])) := hupD hf134 k133 (hupD hf132 k131 (hupD hf130 k129 (hupD hf128 k127 (fr126 _ _ (by omega) (hupN hf115 nq114 (hupD hf112 k111 (fr110 _ _ (by omega) (hupN hf99 nq98 (hupD hf96 k95 k91 rfl))) rfl))) rfl) rfl) rfl) rfl
  have k147 : f134 q86 = some (.inl (cy 4, 60, .inr (.inr (.inr (.inr (sfl q85 60)))))) := hupD hf134 k133 (hupD hf132 k131 (hupD hf130 k129 (hupD hf128 k127 (fr126 _ _ (by omega) (hupN hf115 nq114 (hupD hf112 k111 (fr110 _ _ (by omega) (hupN hf99 nq98 k100)) rfl))) rfl) rfl) rfl) rfl
  have k148 : f134 q98 = some (.inr (6, [.ref q106, .int 0, .int 0, .int 0])) := hupD hf134 k133 (hupD hf132 k131 (hupD hf130 k129 (hupD hf128 k127 (fr126 _ _ (by omega) (hupN hf115 nq114 (hupD hf112 k111 k109 rfl))) rfl) rfl) rfl) rfl
  have k149 : f134 q106 = some (.inl (cy 2, 20, .inr (.inr (.inl (fun _ => 0))))) := hupD hf134 k133 (hupD hf132 k131 (hupD hf130 k129 (hupD hf128 k127 (fr126 _ _ (by omega) (hupN hf115 nq114 k116)) rfl) rfl) rfl) rfl
  have k150 : f134 q114 = some (.inr (6, [.ref q122, .int 0, .int 0, .int 0])) := hupD hf134 k133 (hupD hf132 k131 (hupD hf130 k129 (hupD hf128 k127 k125 rfl) rfl) rfl) rfl
  have k151 : f134 q122 = some (.inl (cy 2, 20, .inr (.inr (.inl (fun _ => 0))))) := hupD hf134 k133 (hupD hf132 k131 (hupD hf130 k129 (hupD hf128 k127 k124 rfl) rfl) rfl) rfl
  have hth : th < sz := by have h6 := (Gz.1 _ _ h_t).1.lt; rw [hsz] at h6; exact h6
  have fr9_1 : ∀ (a9 : Nat) (e9 : va_E), a9 ≠ th → a9 ≤ ma_1 53 → u17 a9 = some e9 → f134 a9 = some e9 := fun a9 e9 h7 h6 h8 => hup hf134 h7 (hup hf132 h7 (hup hf130 h7 (hup hf128 h7 (fr126 _ _ (Nat.ne_of_lt (Nat.lt_of_le_of_lt h6 (by omega))) (hup hf115 (Nat.ne_of_lt (Nat.lt_of_le_of_lt h6 (by omega))) (hup hf112 h7 (fr110 _ _ (Nat.ne_of_lt (Nat.lt_of_le_of_lt h6 (by omega))) (hup hf99 (Nat.ne_of_lt (Nat.lt_of_le_of_lt h6 (by omega))) (hup hf96 h7 (fr94 _ _ (Nat.ne_of_lt (Nat.lt_of_le_of_lt h6 (by omega))) (hup hf77 (Nat.ne_of_lt (Nat.lt_of_le_of_lt h6 (by omega))) (hup hf74 h7 (fr72 _ _ (Nat.ne_of_lt (Nat.lt_of_le_of_lt h6 (by omega))) (hup hf55 (Nat.ne_of_lt (Nat.lt_of_le_of_lt h6 (by omega))) (hup hf52 h7 (fr50 _ _ (Nat.ne_of_lt (Nat.lt_of_le_of_lt h6 (by omega))) (hup hf33 (Nat.ne_of_lt (Nat.lt_of_le_of_lt h6 (by omega))) (hup hf30 h7 (mr_2 _ _ (Nat.ne_of_lt (Nat.lt_of_le_of_lt h6 (by omega))) (hup hf22 (Nat.ne_of_lt (Nat.lt_of_le_of_lt h6 (by omega))) (hup hf19 h7 (h8))))))))))))))))))))))
  have fr9_2 : ∀ (a9 : Nat) (e9 : va_E), a9 ≠ th → a9 ≤ ma_2 53 → u28 a9 = some e9 → f134 a9 = some e9 := fun a9 e9 h7 h6 h8 => hup hf134 h7 (hup hf132 h7 (hup hf130 h7 (hup hf128 h7 (fr126 _ _ (Nat.ne_of_lt (Nat.lt_of_le_of_lt h6 (by omega))) (hup hf115 (Nat.ne_of_lt (Nat.lt_of_le_of_lt h6 (by omega))) (hup hf112 h7 (fr110 _ _ (Nat.ne_of_lt (Nat.lt_of_le_of_lt h6 (by omega))) (hup hf99 (Nat.ne_of_lt (Nat.lt_of_le_of_lt h6 (by omega))) (hup hf96 h7 (fr94 _ _ (Nat.ne_of_lt (Nat.lt_of_le_of_lt h6 (by omega))) (hup hf77 (Nat.ne_of_lt (Nat.lt_of_le_of_lt h6 (by omega))) (hup hf74 h7 (fr72 _ _ (Nat.ne_of_lt (Nat.lt_of_le_of_lt h6 (by omega))) (hup hf55 (Nat.ne_of_lt (Nat.lt_of_le_of_lt h6 (by omega))) (hup hf52 h7 (fr50 _ _ (Nat.ne_of_lt (Nat.lt_of_le_of_lt h6 (by omega))) (hup hf33 (Nat.ne_of_lt (Nat.lt_of_le_of_lt h6 (by omega))) (hup hf30 h7 (h8)))))))))))))))))))
  have hA1 : ∀ k, k < 54 → jA ma_1 ma_2 (0 + k) = ma_1 k := fun k hk => by rw [Nat.zero_add]; exact if_pos hk
  have hA2 : ∀ k, k < 54 → jA ma_1 ma_2 (54 + k) = ma_2 k := fun k hk => by unfold jA; rw [if_neg (by omega), Nat.add_sub_cancel_left]
  have j12 : ma_1 53 < ma_2 0 := by rw [me_2]; omega
  have ma0 : ma_1 0 = q11 := me_1
  obtain ⟨mW1, mQ1⟩ := mf_1 _ _ hA1
  obtain ⟨mW2, mQ2⟩ := mf_2 _ _ hA2
  have mV1 : MW (jA ma_1 ma_2) 0 cy mq_1 (fun _ => 0) iS f134 := fun k hk => by
    have h5 := mono_le mm_1 (i := 0) (j := k) (by omega)
    have h6 := mono_le mm_1 (i := k) (j := 53) (by omega)
    have hk9 : jA ma_1 ma_2 (0 + k) = ma_1 k := hA1 k hk
    rw [hk9]; have h9 := mW1 k hk; rw [hk9] at h9
    exact fr9_1 _ _ (fun q9 => by rw [q9, me_1] at h5; omega) h6 h9
  have mV2 : MW (jA ma_1 ma_2) 54 cy mq_2 (fun _ => 0) iS f134 := fun k hk => by
    have h5 := mono_le mm_2 (i := 0) (j := k) (by omega)
    have h6 := mono_le mm_2 (i := k) (j := 53) (by omega)
    have hk9 : jA ma_1 ma_2 (54 + k) = ma_2 k := hA2 k hk
    rw [hk9]; have h9 := mW2 k hk; rw [hk9] at h9
    exact fr9_2 _ _ (fun q9 => by rw [q9, me_2] at h5; omega) h6 h9
  have z0 : jA ma_1 ma_2 0 = q11 := me_1
  have z1 : jA ma_1 ma_2 54 = q21 := me_2
  have z2 : jA ma_1 ma_2 107 = ma_2 53 := rfl
  exact g_vret C0 G hr dX8_init_96 (Nat.le_of_ble_eq_true rfl) (Nat.le_of_ble_eq_true rfl) (⟨jA ma_1 ma_2, mq_1, mq_2, q32, q40, q41, q42, q54, q62, q63, q64, q76, q84, q85, q86, q98, q106, q114, q122, jA_mono mm_1 mm_2 j12, mV1, mQ1, mV2, mQ2, (by rw [z0]; omega), (by rw [z2]; omega), (by omega), (by omega), (by omega), (by omega), (by omega), (by omega), (by omega), (by omega), (by omega), (by omega), (by omega), (by omega), (by omega), (by omega), (by omega), k136, k137, k138, k139, k140, k141, k142, k143, k144, k145, k146, k147, k148, k149, k150, k151, (by rw [z0, z1]; exact k135), (fun a9 e9 h7 h8 => by have h6 := (Gz.1 _ _ h8).1.lt; rw [hsz] at h6; exact hup hf134 h7 (hup hf132 h7 (hup hf130 h7 (hup hf128 h7 (fr126 _ _ (Nat.ne_of_lt (Nat.lt_of_lt_of_le h6 (by omega))) (hup hf115 (Nat.ne_of_lt (Nat.lt_of_lt_of_le h6 (by omega))) (hup hf112 h7 (fr110 _ _ (Nat.ne_of_lt (Nat.lt_of_lt_of_le h6 (by omega))) (hup hf99 (Nat.ne_of_lt (Nat.lt_of_lt_of_le h6 (by omega))) (hup hf96 h7 (fr94 _ _ (Nat.ne_of_lt (Nat.lt_of_lt_of_le h6 (by omega))) (hup hf77 (Nat.ne_of_lt (Nat.lt_of_lt_of_le h6 (by omega))) (hup hf74 h7 (fr72 _ _ (Nat.ne_of_lt (Nat.lt_of_lt_of_le h6 (by omega))) (hup hf55 (Nat.ne_of_lt (Nat.lt_of_lt_of_le h6 (by omega))) (hup hf52 h7 (fr50 _ _ (Nat.ne_of_lt (Nat.lt_of_lt_of_le h6 (by omega))) (hup hf33 (Nat.ne_of_lt (Nat.lt_of_lt_of_le h6 (by omega))) (hup hf30 h7 (mr_2 _ _ (Nat.ne_of_lt (Nat.lt_of_lt_of_le h6 (by omega))) (hup hf22 (Nat.ne_of_lt (Nat.lt_of_lt_of_le h6 (by omega))) (hup hf19 h7 (mr_1 _ _ (Nat.ne_of_lt (Nat.lt_of_lt_of_le h6 (by omega))) (hup hf12 (Nat.ne_of_lt (Nat.lt_of_lt_of_le h6 (by omega))) (h8)))))))))))))))))))))))))⟩)
set_option maxRecDepth 100000 in
theorem k_X9_init {l : Launch} (hfl : l.stackTraces = false) {D : va_G} {cy : Nat → ClassId} {f : Hf} {sz : Nat} {th : Nat}  (h_t : f th = some (.inr (11, [.int 0, .int 0, .null, .null, .null, .null, .null, .null, .int 0, .int 0, .null, .int 0, .int 0, .int 0, .null, .int 0, .int 0, .int 0, .null, .null, .null, .null]))) : hMet l yX9_init cX9_init 1 none { frames := 1, cells := 12, slots := 119239, locals := 12 } D (hTy cy) f sz [.ref th] (hQv (fun u => ∃ v im kp pa de ide tx pt so mo wh pf, sz ≤ v ∧ v < im ∧ im < kp ∧ kp < pa ∧ pa < de ∧ de < ide ∧ ide < tx ∧ tx < pt ∧ pt < so ∧ so < mo ∧ mo < wh ∧ wh < pf ∧ u v = some (.inl (cy 0, 6441, .inl (fun _ => 0))) ∧ u im = some (.inl (cy 0, 6441, .inl (fun _ => 0))) ∧ u kp = some (.inl (cy 0, 6441, .inl (fun _ => 0))) ∧ u pa = some (.inl (cy 0, 51528, .inl (fun _ => 0))) ∧ u de = some (.inl (cy 0, 24000, .inl (fun _ => 0))) ∧ u ide = some (.inl (cy 0, 24000, .inl (fun _ => 0))) ∧ u tx = some (.inl (cy 0, 60, .inl (fun _ => 0))) ∧ u pt = some (.inl (cy 0, 240, .inl (fun _ => 0))) ∧ u so = some (.inl (cy 0, 2, .inl (fun _ => 0))) ∧ u mo = some (.inl (cy 0, 2, .inl (fun _ => 0))) ∧ u wh = some (.inl (cy 0, 42, .inl (fun _ => 0))) ∧ u pf = some (.inl (cy 2, 42, .inr (.inr (.inl (fun _ => 0))))) ∧ u th = some (.inr (11, [.int 0, .int 0, .ref v, .ref im, .ref kp, .ref pa, .ref de, .ref ide, .int 0, .int 0, .ref tx, .int 0, .int (-1), .int (-1), .ref pt, .int 0, .int 0, .int 0, .ref so, .ref mo, .ref wh, .ref pf])) ∧ hFr f u th) D f sz) hNo := by
  refine h_enter (by decide) hfl (Nat.le_of_ble_eq_true rfl) ?_
  intro p9 e9 s9 m9 b9 t9 c9 hsz C0 hr hnm G ls hl
  have hx := C0.1.1
  have hb := C0.1.2.1
  have Gz := G
  have hin : t9.name = "<init>" := hnm
  have hl : lv_has ls 1 [(0, .ref th)] := hl
  refine lv_aload_n hx hb dX9_init_0 rfl (lv_at hl 0 rfl) ?_
  refine W.objInit hx hb C0.1.2.2.2.1 (C0.2.2.2.1.1 _ mm_X9_3 rfl _) (C0.2.2.2.1.1 _ mi_java_lang_Object__init____V rfl _) (C0.2.2.2.1.1 _ mc_objinit rfl _) rfl (by rw [C0.1.2.2.1]; exact hl.1) rfl dX9_init_1 (Nat.le_of_ble_eq_true rfl) (Nat.le_of_ble_eq_true rfl) ?_
  refine W.eq (g2 := F0 m9 4 ls []) rfl ?_
  refine lv_aload_n hx hb dX9_init_4 rfl (lv_at hl 0 rfl) ?_
  refine lv_sipush (v := 6441) hx hb dX9_init_5 (by decide) ?_
  have zq13 := G.2.1
  have z15 : th < _ := (G.1 _ _ h_t).1.lt
  refine g_newa (atype := .int) (ty := .int) C0 G ma_int rfl 0 rfl (n := 6441) (N' := 6441) (a0 := (6441, .inl (fun _ => 0))) (fun cA => rfl) (by decide) rfl (Nat.le_of_ble_eq_true rfl) (Nat.le_of_ble_eq_true rfl) (Nat.le_of_ble_eq_true rfl) dX9_init_8 (fun q13 H f14 nq13 hf14 G hzq13 => ?_)
  have k16 : f14 q13 = some (.inl (cy 0, 6441, .inl (fun _ => 0))) := hus hf14
  have k17 : f14 th = some (.inr (11, [.int 0, .int 0, .null, .null, .null, .null, .null, .null, .int 0, .int 0, .null, .int 0, .int 0, .int 0, .null, .int 0, .int 0, .int 0, .null, .null, .null, .null])) := hupN hf14 nq13 h_t
  refine g_putF C0 G hin k17 rfl hiX9 tyX9 tyX9_ok nmX9 2 (by decide) mf_X9_9 rfl rfl rfl rfl rfl (Nat.le_of_ble_eq_true rfl) dX9_init_10 (fun H locs f18 hf18 G => ?_)
  have k19 : f18 th = some (.inr (11, [.int 0, .int 0, .ref q13, .null, .null, .null, .null, .null, .int 0, .int 0, .null, .int 0, .int 0, .int 0, .null, .int 0, .int 0, .int 0, .null, .null, .null, .null])) := hus hf18
  refine lv_aload_n hx hb dX9_init_13 rfl (lv_at hl 0 rfl) ?_
  refine lv_sipush (v := 6441) hx hb dX9_init_14 (by decide) ?_
  have zq22 := G.2.1
  have k24 : f18 q13 = some (.inl (cy 0, 6441, .inl (fun _ => 0))) := hupD hf18 k17 k16 rfl
  have z25 : q13 < _ := (G.1 _ _ k24).1.lt
  refine g_newa (atype := .int) (ty := .int) C0 G ma_int rfl 0 rfl (n := 6441) (N' := 6441) (a0 := (6441, .inl (fun _ => 0))) (fun cA => rfl) (by decide) rfl (Nat.le_of_ble_eq_true rfl) (Nat.le_of_ble_eq_true rfl) (Nat.le_of_ble_eq_true rfl) dX9_init_17 (fun q22 H f23 nq22 hf23 G hzq22 => ?_)
  have k26 : f23 q22 = some (.inl (cy 0, 6441, .inl (fun _ => 0))) := hus hf23
  have k27 : f23 th = some (.inr (11, [.int 0, .int 0, .ref q13, .null, .null, .null, .null, .null, .int 0, .int 0, .null, .int 0, .int 0, .int 0, .null, .int 0, .int 0, .int 0, .null, .null, .null, .null])) := hupN hf23 nq22 k19
  refine g_putF C0 G hin k27 rfl hiX9 tyX9 tyX9_ok nmX9 3 (by decide) mf_X9_13 rfl rfl rfl rfl rfl (Nat.le_of_ble_eq_true rfl) dX9_init_19 (fun H locs f28 hf28 G => ?_)
  have k29 : f28 th = some (.inr (11, [.int 0, .int 0, .ref q13, .ref q22, .null, .null, .null, .null, .int 0, .int 0, .null, .int 0, .int 0, .int 0, .null, .int 0, .int 0, .int 0, .null, .null, .null, .null])) := hus hf28
  refine lv_aload_n hx hb dX9_init_22 rfl (lv_at hl 0 rfl) ?_
  refine lv_sipush (v := 6441) hx hb dX9_init_23 (by decide) ?_
  have zq32 := G.2.1
  have k34 : f28 q22 = some (.inl (cy 0, 6441, .inl (fun _ => 0))) := hupD hf28 k27 k26 rfl
  have z35 : q22 < _ := (G.1 _ _ k34).1.lt
  refine g_newa (atype := .int) (ty := .int) C0 G ma_int rfl 0 rfl (n := 6441) (N' := 6441) (a0 := (6441, .inl (fun _ => 0))) (fun cA => rfl) (by decide) rfl (Nat.le_of_ble_eq_true rfl) (Nat.le_of_ble_eq_true rfl) (Nat.le_of_ble_eq_true rfl) dX9_init_26 (fun q32 H f33 nq32 hf33 G hzq32 => ?_)
  have k36 : f33 q32 = some (.inl (cy 0, 6441, .inl (fun _ => 0))) := hus hf33
  have k37 : f33 th = some (.inr (11, [.int 0, .int 0, .ref q13, .ref q22, .null, .null, .null, .null, .int 0, .int 0, .null, .int 0, .int 0, .int 0, .null, .int 0, .int 0, .int 0, .null, .null, .null, .null])) := hupN hf33 nq32 k29
  refine g_putF C0 G hin k37 rfl hiX9 tyX9 tyX9_ok nmX9 4 (by decide) mf_X9_16 rfl rfl rfl rfl rfl (Nat.le_of_ble_eq_true rfl) dX9_init_28 (fun H locs f38 hf38 G => ?_)
  have k39 : f38 th = some (.inr (11, [.int 0, .int 0, .ref q13, .ref q22, .ref q32, .null, .null, .null, .int 0, .int 0, .null, .int 0, .int 0, .int 0, .null, .int 0, .int 0, .int 0, .null, .null, .null, .null])) := hus hf38
  refine lv_aload_n hx hb dX9_init_31 rfl (lv_at hl 0 rfl) ?_
  refine lv_ldc (v := 51528) hx hb C0.1.2.2.2.1 (C0.2.2.2.1.1 _ mcn_X9_19 rfl _) dX9_init_32 ?_
  have zq42 := G.2.1
  have k44 : f38 q32 = some (.inl (cy 0, 6441, .inl (fun _ => 0))) := hupD hf38 k37 k36 rfl
  have z45 : q32 < _ := (G.1 _ _ k44).1.lt
  refine g_newa (atype := .int) (ty := .int) C0 G ma_int rfl 0 rfl (n := 51528) (N' := 51528) (a0 := (51528, .inl (fun _ => 0))) (fun cA => rfl) (by decide) rfl (Nat.le_of_ble_eq_true rfl) (Nat.le_of_ble_eq_true rfl) (Nat.le_of_ble_eq_true rfl) dX9_init_34 (fun q42 H f43 nq42 hf43 G hzq42 => ?_)
  have k46 : f43 q42 = some (.inl (cy 0, 51528, .inl (fun _ => 0))) := hus hf43
  have k47 : f43 th = some (.inr (11, [.int 0, .int 0, .ref q13, .ref q22, .ref q32, .null, .null, .null, .int 0, .int 0, .null, .int 0, .int 0, .int 0, .null, .int 0, .int 0, .int 0, .null, .null, .null, .null])) := hupN hf43 nq42 k39
  refine g_putF C0 G hin k47 rfl hiX9 tyX9 tyX9_ok nmX9 5 (by decide) mf_X9_20 rfl rfl rfl rfl rfl (Nat.le_of_ble_eq_true rfl) dX9_init_36 (fun H locs f48 hf48 G => ?_)
  have k49 : f48 th = some (.inr (11, [.int 0, .int 0, .ref q13, .ref q22, .ref q32, .ref q42, .null, .null, .int 0, .int 0, .null, .int 0, .int 0, .int 0, .null, .int 0, .int 0, .int 0, .null, .null, .null, .null])) := hus hf48
  refine lv_aload_n hx hb dX9_init_39 rfl (lv_at hl 0 rfl) ?_
  refine lv_sipush (v := 24000) hx hb dX9_init_40 (by decide) ?_
  have zq52 := G.2.1
  have k54 : f48 q42 = some (.inl (cy 0, 51528, .inl (fun _ => 0))) := hupD hf48 k47 k46 rfl
  have z55 : q42 < _ := (G.1 _ _ k54).1.lt
  refine g_newa (atype := .int) (ty := .int) C0 G ma_int rfl 0 rfl (n := 24000) (N' := 24000) (a0 := (24000, .inl (fun _ => 0))) (fun cA => rfl) (by decide) rfl (Nat.le_of_ble_eq_true rfl) (Nat.le_of_ble_eq_true rfl) (Nat.le_of_ble_eq_true rfl) dX9_init_43 (fun q52 H f53 nq52 hf53 G hzq52 => ?_)
  have k56 : f53 q52 = some (.inl (cy 0, 24000, .inl (fun _ => 0))) := hus hf53
  have k57 : f53 th = some (.inr (11, [.int 0, .int 0, .ref q13, .ref q22, .ref q32, .ref q42, .null, .null, .int 0, .int 0, .null, .int 0, .int 0, .int 0, .null, .int 0, .int 0, .int 0, .null, .null, .null, .null])) := hupN hf53 nq52 k49
  refine g_putF C0 G hin k57 rfl hiX9 tyX9 tyX9_ok nmX9 6 (by decide) mf_X9_23 rfl rfl rfl rfl rfl (Nat.le_of_ble_eq_true rfl) dX9_init_45 (fun H locs f58 hf58 G => ?_)
  have k59 : f58 th = some (.inr (11, [.int 0, .int 0, .ref q13, .ref q22, .ref q32, .ref q42, .ref q52, .null, .int 0, .int 0, .null, .int 0, .int 0, .int 0, .null, .int 0, .int 0, .int 0, .null, .null, .null, .null])) := hus hf58
  refine lv_aload_n hx hb dX9_init_48 rfl (lv_at hl 0 rfl) ?_
  refine lv_sipush (v := 24000) hx hb dX9_init_49 (by decide) ?_
  have zq62 := G.2.1
  have k64 : f58 q52 = some (.inl (cy 0, 24000, .inl (fun _ => 0))) := hupD hf58 k57 k56 rfl
  have z65 : q52 < _ := (G.1 _ _ k64).1.lt
  refine g_newa (atype := .int) (ty := .int) C0 G ma_int rfl 0 rfl (n := 24000) (N' := 24000) (a0 := (24000, .inl (fun _ => 0))) (fun cA => rfl) (by decide) rfl (Nat.le_of_ble_eq_true rfl) (Nat.le_of_ble_eq_true rfl) (Nat.le_of_ble_eq_true rfl) dX9_init_52 (fun q62 H f63 nq62 hf63 G hzq62 => ?_)
  have k66 : f63 q62 = some (.inl (cy 0, 24000, .inl (fun _ => 0))) := hus hf63
  have k67 : f63 th = some (.inr (11, [.int 0, .int 0, .ref q13, .ref q22, .ref q32, .ref q42, .ref q52, .null, .int 0, .int 0, .null, .int 0, .int 0, .int 0, .null, .int 0, .int 0, .int 0, .null, .null, .null, .null])) := hupN hf63 nq62 k59
  refine g_putF C0 G hin k67 rfl hiX9 tyX9 tyX9_ok nmX9 7 (by decide) mf_X9_26 rfl rfl rfl rfl rfl (Nat.le_of_ble_eq_true rfl) dX9_init_54 (fun H locs f68 hf68 G => ?_)
  have k69 : f68 th = some (.inr (11, [.int 0, .int 0, .ref q13, .ref q22, .ref q32, .ref q42, .ref q52, .ref q62, .int 0, .int 0, .null, .int 0, .int 0, .int 0, .null, .int 0, .int 0, .int 0, .null, .null, .null, .null])) := hus hf68
  refine lv_aload_n hx hb dX9_init_57 rfl (lv_at hl 0 rfl) ?_
  refine lv_bipush (v := 60) hx hb dX9_init_58 (by decide) ?_
  have zq72 := G.2.1
  have k74 : f68 q62 = some (.inl (cy 0, 24000, .inl (fun _ => 0))) := hupD hf68 k67 k66 rfl
  have z75 : q62 < _ := (G.1 _ _ k74).1.lt
  refine g_newa (atype := .int) (ty := .int) C0 G ma_int rfl 0 rfl (n := 60) (N' := 60) (a0 := (60, .inl (fun _ => 0))) (fun cA => rfl) (by decide) rfl (Nat.le_of_ble_eq_true rfl) (Nat.le_of_ble_eq_true rfl) (Nat.le_of_ble_eq_true rfl) dX9_init_60 (fun q72 H f73 nq72 hf73 G hzq72 => ?_)
  have k76 : f73 q72 = some (.inl (cy 0, 60, .inl (fun _ => 0))) := hus hf73
  have k77 : f73 th = some (.inr (11, [.int 0, .int 0, .ref q13, .ref q22, .ref q32, .ref q42, .ref q52, .ref q62, .int 0, .int 0, .null, .int 0, .int 0, .int 0, .null, .int 0, .int 0, .int 0, .null, .null, .null, .null])) := hupN hf73 nq72 k69
  refine g_putF C0 G hin k77 rfl hiX9 tyX9 tyX9_ok nmX9 10 (by decide) mf_X9_29 rfl rfl rfl rfl rfl (Nat.le_of_ble_eq_true rfl) dX9_init_62 (fun H locs f78 hf78 G => ?_)
  have k79 : f78 th = some (.inr (11, [.int 0, .int 0, .ref q13, .ref q22, .ref q32, .ref q42, .ref q52, .ref q62, .int 0, .int 0, .ref q72, .int 0, .int 0, .int 0, .null, .int 0, .int 0, .int 0, .null, .null, .null, .null])) := hus hf78
  refine lv_aload_n hx hb dX9_init_65 rfl (lv_at hl 0 rfl) ?_
  refine lv_iconst (v := (-1)) hx hb dX9_init_66 (by decide) ?_
  refine g_put C0 G k79 rfl hiX9 tyX9 tyX9_ok nmX9 12 (by decide) mf_X9_32 rfl rfl rfl rfl (Nat.le_of_ble_eq_true rfl) dX9_init_67 (fun H locs f80 hf80 G => ?_)
  have k81 : f80 th = some (.inr (11, [.int 0, .int 0, .ref q13, .ref q22, .ref q32, .ref q42, .ref q52, .ref q62, .int 0, .int 0, .ref q72, .int 0, .int (-1), .int 0, .null, .int 0, .int 0, .int 0, .null, .null, .null, .null])) := hus hf80
  refine lv_aload_n hx hb dX9_init_70 rfl (lv_at hl 0 rfl) ?_
  refine lv_iconst (v := (-1)) hx hb dX9_init_71 (by decide) ?_
  refine g_put C0 G k81 rfl hiX9 tyX9 tyX9_ok nmX9 13 (by decide) mf_X9_36 rfl rfl rfl rfl (Nat.le_of_ble_eq_true rfl) dX9_init_72 (fun H locs f82 hf82 G => ?_)
  have k83 : f82 th = some (.inr (11, [.int 0, .int 0, .ref q13, .ref q22, .ref q32, .ref q42, .ref q52, .ref q62, .int 0, .int 0, .ref q72, .int 0, .int (-1), .int (-1), .null, .int 0, .int 0, .int 0, .null, .null, .null, .null])) := hus hf82
  refine lv_aload_n hx hb dX9_init_75 rfl (lv_at hl 0 rfl) ?_
  refine lv_sipush (v := 240) hx hb dX9_init_76 (by decide) ?_
  have zq86 := G.2.1
  have k88 : f82 q72 = some (.inl (cy 0, 60, .inl (fun _ => 0))) := hupD hf82 k81 (hupD hf80 k79 (hupD hf78 k77 k76 rfl) rfl) rfl
  have z89 : q72 < _ := (G.1 _ _ k88).1.lt
  refine g_newa (atype := .int) (ty := .int) C0 G ma_int rfl 0 rfl (n := 240) (N' := 240) (a0 := (240, .inl (fun _ => 0))) (fun cA => rfl) (by decide) rfl (Nat.le_of_ble_eq_true rfl) (Nat.le_of_ble_eq_true rfl) (Nat.le_of_ble_eq_true rfl) dX9_init_79 (fun q86 H f87 nq86 hf87 G hzq86 => ?_)
  have k90 : f87 q86 = some (.inl (cy 0, 240, .inl (fun _ => 0))) := hus hf87
  have k91 : f87 th = some (.inr (11, [.int 0, .int 0, .ref q13, .ref q22, .ref q32, .ref q42, .ref q52, .ref q62, .int 0, .int 0, .ref q72, .int 0, .int (-1), .int (-1), .null, .int 0, .int 0, .int 0, .null, .null, .null, .null])) := hupN hf87 nq86 k83
  refine g_putF C0 G hin k91 rfl hiX9 tyX9 tyX9_ok nmX9 14 (by decide) mf_X9_39 rfl rfl rfl rfl rfl (Nat.le_of_ble_eq_true rfl) dX9_init_81 (fun H locs f92 hf92 G => ?_)
  have k93 : f92 th = some (.inr (11, [.int 0, .int 0, .ref q13, .ref q22, .ref q32, .ref q42, .ref q52, .ref q62, .int 0, .int 0, .ref q72, .int 0, .int (-1), .int (-1), .ref q86, .int 0, .int 0, .int 0, .null, .null, .null, .null])) := hus hf92
  refine lv_aload_n hx hb dX9_init_84 rfl (lv_at hl 0 rfl) ?_
  refine lv_iconst (v := 2) hx hb dX9_init_85 (by decide) ?_
  have zq96 := G.2.1
  have k98 : f92 q86 = some (.inl (cy 0, 240, .inl (fun _ => 0))) := hupD hf92 k91 k90 rfl
  have z99 : q86 < _ := (G.1 _ _ k98).1.lt
  refine g_newa (atype := .int) (ty := .int) C0 G ma_int rfl 0 rfl (n := 2) (N' := 2) (a0 := (2, .inl (fun _ => 0))) (fun cA => rfl) (by decide) rfl (Nat.le_of_ble_eq_true rfl) (Nat.le_of_ble_eq_true rfl) (Nat.le_of_ble_eq_true rfl) dX9_init_86 (fun q96 H f97 nq96 hf97 G hzq96 => ?_)
  have k100 : f97 q96 = some (.inl (cy 0, 2, .inl (fun _ => 0))) := hus hf97
  have k101 : f97 th = some (.inr (11, [.int 0, .int 0, .ref q13, .ref q22, .ref q32, .ref q42, .ref q52, .ref q62, .int 0, .int 0, .ref q72, .int 0, .int (-1), .int (-1), .ref q86, .int 0, .int 0, .int 0, .null, .null, .null, .null])) := hupN hf97 nq96 k93
  refine g_putF C0 G hin k101 rfl hiX9 tyX9 tyX9_ok nmX9 18 (by decide) mf_X9_42 rfl rfl rfl rfl rfl (Nat.le_of_ble_eq_true rfl) dX9_init_88 (fun H locs f102 hf102 G => ?_)
  have k103 : f102 th = some (.inr (11, [.int 0, .int 0, .ref q13, .ref q22, .ref q32, .ref q42, .ref q52, .ref q62, .int 0, .int 0, .ref q72, .int 0, .int (-1), .int (-1), .ref q86, .int 0, .int 0, .int 0, .ref q96, .null, .null, .null])) := hus hf102
  refine lv_aload_n hx hb dX9_init_91 rfl (lv_at hl 0 rfl) ?_
  refine lv_iconst (v := 2) hx hb dX9_init_92 (by decide) ?_
  have zq106 := G.2.1
  have k108 : f102 q96 = some (.inl (cy 0, 2, .inl (fun _ => 0))) := hupD hf102 k101 k100 rfl
  have z109 : q96 < _ := (G.1 _ _ k108).1.lt
  refine g_newa (atype := .int) (ty := .int) C0 G ma_int rfl 0 rfl (n := 2) (N' := 2) (a0 := (2, .inl (fun _ => 0))) (fun cA => rfl) (by decide) rfl (Nat.le_of_ble_eq_true rfl) (Nat.le_of_ble_eq_true rfl) (Nat.le_of_ble_eq_true rfl) dX9_init_93 (fun q106 H f107 nq106 hf107 G hzq106 => ?_)
  have k110 : f107 q106 = some (.inl (cy 0, 2, .inl (fun _ => 0))) := hus hf107
  have k111 : f107 th = some (.inr (11, [.int 0, .int 0, .ref q13, .ref q22, .ref q32, .ref q42, .ref q52, .ref q62, .int 0, .int 0, .ref q72, .int 0, .int (-1), .int (-1), .ref q86, .int 0, .int 0, .int 0, .ref q96, .null, .null, .null])) := hupN hf107 nq106 k103
  refine g_putF C0 G hin k111 rfl hiX9 tyX9 tyX9_ok nmX9 19 (by decide) mf_X9_45 rfl rfl rfl rfl rfl (Nat.le_of_ble_eq_true rfl) dX9_init_95 (fun H locs f112 hf112 G => ?_)
  have k113 : f112 th = some (.inr (11, [.int 0, .int 0, .ref q13, .ref q22, .ref q32, .ref q42, .ref q52, .ref q62, .int 0, .int 0, .ref q72, .int 0, .int (-1), .int (-1), .ref q86, .int 0, .int 0, .int 0, .ref q96, .ref q106, .null, .null])) := hus hf112
  refine lv_aload_n hx hb dX9_init_98 rfl (lv_at hl 0 rfl) ?_
  refine lv_bipush (v := 42) hx hb dX9_init_99 (by decide) ?_
  have zq116 := G.2.1
  have k118 : f112 q106 = some (.inl (cy 0, 2, .inl (fun _ => 0))) := hupD hf112 k111 k110 rfl
  have z119 : q106 < _ := (G.1 _ _ k118).1.lt
  refine g_newa (atype := .int) (ty := .int) C0 G ma_int rfl 0 rfl (n := 42) (N' := 42) (a0 := (42, .inl (fun _ => 0))) (fun cA => rfl) (by decide) rfl (Nat.le_of_ble_eq_true rfl) (Nat.le_of_ble_eq_true rfl) (Nat.le_of_ble_eq_true rfl) dX9_init_101 (fun q116 H f117 nq116 hf117 G hzq116 => ?_)
  have k120 : f117 q116 = some (.inl (cy 0, 42, .inl (fun _ => 0))) := hus hf117
  have k121 : f117 th = some (.inr (11, [.int 0, .int 0, .ref q13, .ref q22, .ref q32, .ref q42, .ref q52, .ref q62, .int 0, .int 0, .ref q72, .int 0, .int (-1), .int (-1), .ref q86, .int 0, .int 0, .int 0, .ref q96, .ref q106, .null, .null])) := hupN hf117 nq116 k113
  refine g_putF C0 G hin k121 rfl hiX9 tyX9 tyX9_ok nmX9 20 (by decide) mf_X9_48 rfl rfl rfl rfl rfl (Nat.le_of_ble_eq_true rfl) dX9_init_103 (fun H locs f122 hf122 G => ?_)
  have k123 : f122 th = some (.inr (11, [.int 0, .int 0, .ref q13, .ref q22, .ref q32, .ref q42, .ref q52, .ref q62, .int 0, .int 0, .ref q72, .int 0, .int (-1), .int (-1), .ref q86, .int 0, .int 0, .int 0, .ref q96, .ref q106, .ref q116, .null])) := hus hf122
  refine lv_aload_n hx hb dX9_init_106 rfl (lv_at hl 0 rfl) ?_
  refine lv_bipush (v := 42) hx hb dX9_init_107 (by decide) ?_
  have zq126 := G.2.1
  have k128 : f122 q116 = some (.inl (cy 0, 42, .inl (fun _ => 0))) := hupD hf122 k121 k120 rfl
  have z129 : q116 < _ := (G.1 _ _ k128).1.lt
  refine g_newa (atype := .float) (ty := .float) C0 G ma_float rfl 2 rfl (n := 42) (N' := 42) (a0 := (42, .inr (.inr (.inl (fun _ => 0))))) (fun cA => rfl) (by decide) rfl (Nat.le_of_ble_eq_true rfl) (Nat.le_of_ble_eq_true rfl) (Nat.le_of_ble_eq_true rfl) dX9_init_109 (fun q126 H f127 nq126 hf127 G hzq126 => ?_)
  have k130 : f127 q126 = some (.inl (cy 2, 42, .inr (.inr (.inl (fun _ => 0))))) := hus hf127
  have k131 : f127 th = some (.inr (11, [.int 0, .int 0, .ref q13, .ref q22, .ref q32, .ref q42, .ref q52, .ref q62, .int 0, .int 0, .ref q72, .int 0, .int (-1), .int (-1), .ref q86, .int 0, .int 0, .int 0, .ref q96, .ref q106, .ref q116, .null])) := hupN hf127 nq126 k123
  refine g_putF C0 G hin k131 rfl hiX9 tyX9 tyX9_ok nmX9 21 (by decide) mf_X9_51 rfl rfl rfl rfl rfl (Nat.le_of_ble_eq_true rfl) dX9_init_111 (fun H locs f132 hf132 G => ?_)
  have k133 : f132 th = some (.inr (11, [.int 0, .int 0, .ref q13, .ref q22, .ref q32, .ref q42, .ref q52, .ref q62, .int 0, .int 0, .ref q72, .int 0, .int (-1), .int (-1), .ref q86, .int 0, .int 0, .int 0, .ref q96, .ref q106, .ref q116, .ref q126])) := hus hf132
  have k134 : f132 q13 = some (.inl (cy 0, 6441, .inl (fun _ => 0))) := hupD hf132 k131 (hupN hf127 nq126 (hupD hf122 k121 (hupN hf117 nq116 (hupD hf112 k111 (hupN hf107 nq106 (hupD hf102 k101 (hupN hf97 nq96 (hupD hf92 k91 (hupN hf87 nq86 (hupD hf82 k81 (hupD hf80 k79 (hupD hf78 k77 (hupN hf73 nq72 (hupD hf68 k67 (hupN hf63 nq62 (hupD hf58 k57 (hupN hf53 nq52 (hupD hf48 k47 (hupN hf43 nq42 (hupD hf38 k37 (hupN hf33 nq32 (hupD hf28 k27 (hupN hf23 nq22 k24) rfl)) rfl)) rfl)) rfl)) rfl)) rfl) rfl) rfl)) rfl)) rfl)) rfl)) rfl)) rfl
  have k135 : f132 q22 = some (.inl (cy 0, 6441, .inl (fun _ => 0))) := hupD hf132 k131 (hupN hf127 nq126 (hupD hf122 k121 (hupN hf117 nq116 (hupD hf112 k111 (hupN hf107 nq106 (hupD hf102 k101 (hupN hf97 nq96 (hupD hf92 k91 (hupN hf87 nq86 (hupD hf82 k81 (hupD hf80 k79 (hupD hf78 k77 (hupN hf73 nq72 (hupD hf68 k67 (hupN hf63 nq62 (hupD hf58 k57 (hupN hf53 nq52 (hupD hf48 k47 (hupN hf43 nq42 (hupD hf38 k37 (hupN hf33 nq32 k34) rfl)) rfl)) rfl)) rfl)) rfl) rfl) rfl)) rfl)) rfl)) rfl)) rfl)) rfl
  have k136 : f132 q32 = some (.inl (cy 0, 6441, .inl (fun _ => 0))) := hupD hf132 k131 (hupN hf127 nq126 (hupD hf122 k121 (hupN hf117 nq116 (hupD hf112 k111 (hupN hf107 nq106 (hupD hf102 k101 (hupN hf97 nq96 (hupD hf92 k91 (hupN hf87 nq86 (hupD hf82 k81 (hupD hf80 k79 (hupD hf78 k77 (hupN hf73 nq72 (hupD hf68 k67 (hupN hf63 nq62 (hupD hf58 k57 (hupN hf53 nq52 (hupD hf48 k47 (hupN hf43 nq42 k44) rfl)) rfl)) rfl)) rfl) rfl) rfl)) rfl)) rfl)) rfl)) rfl)) rfl
  have k137 : f132 q42 = some (.inl (cy 0, 51528, .inl (fun _ => 0))) := hupD hf132 k131 (hupN hf127 nq126 (hupD hf122 k121 (hupN hf117 nq116 (hupD hf112 k111 (hupN hf107 nq106 (hupD hf102 k101 (hupN hf97 nq96 (hupD hf92 k91 (hupN hf87 nq86 (hupD hf82 k81 (hupD hf80 k79 (hupD hf78 k77 (hupN hf73 nq72 (hupD hf68 k67 (hupN hf63 nq62 (hupD hf58 k57 (hupN hf53 nq52 k54) rfl)) rfl)) rfl) rfl) rfl)) rfl)) rfl)) rfl)) rfl)) rfl
  have k138 : f132 q52 = some (.inl (cy 0, 24000, .inl (fun _ => 0))) := hupD hf132 k131 (hupN hf127 nq126 (hupD hf122 k121 (hupN hf117 nq116 (hupD hf112 k111 (hupN hf107 nq106 (hupD hf102 k101 (hupN hf97 nq96 (hupD hf92 k91 (hupN hf87 nq86 (hupD hf82 k81 (hupD hf80 k79 (hupD hf78 k77 (hupN hf73 nq72 (hupD hf68 k67 (hupN hf63 nq62 k64) rfl)) rfl) rfl) rfl)) rfl)) rfl)) rfl)) rfl)) rfl
  have k139 : f132 q62 = some (.inl (cy 0, 24000, .inl (fun _ => 0))) := hupD hf132 k131 (hupN hf127 nq126 (hupD hf122 k121 (hupN hf117 nq116 (hupD hf112 k111 (hupN hf107 nq106 (hupD hf102 k101 (hupN hf97 nq96 (hupD hf92 k91 (hupN hf87 nq86 (hupD hf82 k81 (hupD hf80 k79 (hupD hf78 k77 (hupN hf73 nq72 k74) rfl) rfl) rfl)) rfl)) rfl)) rfl)) rfl)) rfl
  have k140 : f132 q72 = some (.inl (cy 0, 60, .inl (fun _ => 0))) := hupD hf132 k131 (hupN hf127 nq126 (hupD hf122 k121 (hupN hf117 nq116 (hupD hf112 k111 (hupN hf107 nq106 (hupD hf102 k101 (hupN hf97 nq96 (hupD hf92 k91 (hupN hf87 nq86 k88) rfl)) rfl)) rfl)) rfl)) rfl
  have k141 : f132 q86 = some (.inl (cy 0, 240, .inl (fun _ => 0))) := hupD hf132 k131 (hupN hf127 nq126 (hupD hf122 k121 (hupN hf117 nq116 (hupD hf112 k111 (hupN hf107 nq106 (hupD hf102 k101 (hupN hf97 nq96 k98) rfl)) rfl)) rfl)) rfl
  have k142 : f132 q96 = some (.inl (cy 0, 2, .inl (fun _ => 0))) := hupD hf132 k131 (hupN hf127 nq126 (hupD hf122 k121 (hupN hf117 nq116 (hupD hf112 k111 (hupN hf107 nq106 k108) rfl)) rfl)) rfl
  have k143 : f132 q106 = some (.inl (cy 0, 2, .inl (fun _ => 0))) := hupD hf132 k131 (hupN hf127 nq126 (hupD hf122 k121 (hupN hf117 nq116 k118) rfl)) rfl
  have k144 : f132 q116 = some (.inl (cy 0, 42, .inl (fun _ => 0))) := hupD hf132 k131 (hupN hf127 nq126 k128) rfl
  have k145 : f132 q126 = some (.inl (cy 2, 42, .inr (.inr (.inl (fun _ => 0))))) := hupD hf132 k131 k130 rfl
  exact g_vret C0 G hr dX9_init_114 (Nat.le_of_ble_eq_true rfl) (Nat.le_of_ble_eq_true rfl) (by exact ⟨q13, q22, q32, q42, q52, q62, q72, q86, q96, q106, q116, q126, (by omega), (by omega), (by omega), (by omega), (by omega), (by omega), (by omega), (by omega), (by omega), (by omega), (by omega), (by omega), k134, k135, k136, k137, k138, k139, k140, k141, k142, k143, k144, k145, k133, (fun a9 e9 h7 h8 => by have h6 := (Gz.1 _ _ h8).1.lt; rw [hsz] at h6; exact hup hf132 h7 (hup hf127 (Nat.ne_of_lt (Nat.lt_of_lt_of_le h6 (by omega))) (hup hf122 h7 (hup hf117 (Nat.ne_of_lt (Nat.lt_of_lt_of_le h6 (by omega))) (hup hf112 h7 (hup hf107 (Nat.ne_of_lt (Nat.lt_of_lt_of_le h6 (by omega))) (hup hf102 h7 (hup hf97 (Nat.ne_of_lt (Nat.lt_of_lt_of_le h6 (by omega))) (hup hf92 h7 (hup hf87 (Nat.ne_of_lt (Nat.lt_of_lt_of_le h6 (by omega))) (hup hf82 h7 (hup hf80 h7 (hup hf78 h7 (hup hf73 (Nat.ne_of_lt (Nat.lt_of_lt_of_le h6 (by omega))) (hup hf68 h7 (hup hf63 (Nat.ne_of_lt (Nat.lt_of_lt_of_le h6 (by omega))) (hup hf58 h7 (hup hf53 (Nat.ne_of_lt (Nat.lt_of_lt_of_le h6 (by omega))) (hup hf48 h7 (hup hf43 (Nat.ne_of_lt (Nat.lt_of_lt_of_le h6 (by omega))) (hup hf38 h7 (hup hf33 (Nat.ne_of_lt (Nat.lt_of_lt_of_le h6 (by omega))) (hup hf28 h7 (hup hf23 (Nat.ne_of_lt (Nat.lt_of_lt_of_le h6 (by omega))) (hup hf18 h7 (hup hf14 (Nat.ne_of_lt (Nat.lt_of_lt_of_le h6 (by omega))) (h8)))))))))))))))))))))))))))⟩)
