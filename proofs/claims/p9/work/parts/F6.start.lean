set_option maxRecDepth 100000 in
theorem whole_start {p : Program} {e : Env} {s : State} {m : MethodId} {below : List Frame} {meth : Method} {c : Code} (l : Launch) (hflags : l.flags = flags0) {b L : Nat} {xs : Nat → Int32} (hL : L ≤ 3072) (C9 : lw_At p s m meth c b L xs) : W p l e room_1 s m #[Value.ref b] below meth c s.heap [] 0 0 (lw_Z below #[Value.ref b] s) (entryFrame m ([Value.ref b] : List Value).toArray 9) := by
  obtain ⟨hx, hb, hr, hml, hown, hts, hX, hbl, hlocks, hgv⟩ := id C9
  have hbA : ¬ hA f00 s.heap.size b := fun q => by
    rcases q with q | q
    · exact q rfl
    · omega
  obtain ⟨D, cy, C0⟩ := law_C hflags C9
  have hfl : l.stackTraces = false := C0.2.2.2.2.2.2.1
  have hl := lv_entry ([.ref b]) (n := 9) (Nat.le_of_ble_eq_true rfl)
  rw [lg_entry_eq]
  generalize (lg_sl ([.ref b]) ++ List.replicate (9 - (lg_sl ([.ref b])).length) Slot.unset).toArray = ls at hl ⊢
  have hl : lv_has ls 9 [(0, .ref b)] := hl
  have G : hG D (hA f00 s.heap.size) f00 s s.heap [] := law_G
  have zq1 := G.2.1
  refine g_new C0 G (ci := 10) (fs := [.null, .null, .null, .null, .null, .null, .null, .int 0, .int 0, .int 0]) rfl hiX8 tyX8 tyX8_ok mk_L_8 mn_X8 mz_X8 (fun j hj => by rcases (show j = 0 ∨ j = 1 ∨ j = 2 ∨ j = 3 ∨ j = 4 ∨ j = 5 ∨ j = 6 ∨ j = 7 ∨ j = 8 ∨ j = 9 by omega) with rfl | rfl | rfl | rfl | rfl | rfl | rfl | rfl | rfl | rfl <;> rfl) (Nat.le_of_ble_eq_true rfl) (Nat.le_of_ble_eq_true rfl) dL_law_0 (fun q1 H f2 nq1 hf2 G hzq1 => ?_)
  have k3 : f2 q1 = some (.inr (10, [.null, .null, .null, .null, .null, .null, .null, .int 0, .int 0, .int 0])) := hus hf2
  refine lv_dup hx hb dL_law_3 rfl ?_
  have z4 : q1 < _ := (G.1 _ _ k3).1.lt
  refine g_cV C0 G (g_runI C0 G (rest := [.ref q1]) (k_X8_initG hfl k3) hY_X8_init mm_L_118 mi_X8_init rfl ⟨(Nat.le_of_ble_eq_true rfl), (Nat.le_of_ble_eq_true rfl)⟩ rfl hl.1 rfl (Nat.le_of_ble_eq_true rfl) dL_law_4 ⟨(Nat.le_of_ble_eq_true rfl), (Nat.le_of_ble_eq_true rfl)⟩) (kx_no rfl) (fun u6 H locs hp5 G => ?_)
  obtain ⟨A, q, q2, lg, ln, lst, len, sv, sn, sst, sen, tx, bf, tn, tp, r0, r0e, r1, r1e, hA1, hM, hQ, hM2, hQ2, g0, g1, g2, g3, g4, g5, g6, g7, g8, g9, g10, g11, g12, g13, g14, g15, g16, h_lg, h_ln, h_lst, h_len, h_sv, h_sn, h_sst, h_sen, h_tx, h_bf, h_tn, h_tp, h_r0, h_r0e, h_r1, h_r1e, h_sc, hfr_sc⟩ := hp5
  refine lv_astore_n (lv' := [(1, .ref q1), (0, .ref b)]) hx hb dL_law_7 rfl hl (by decide) rfl (fun ls hl => ?_)
  have zq38 := G.2.1
  have z40 : r1e < _ := (G.1 _ _ h_r1e).1.lt
  refine g_new C0 G (ci := 11) (fs := [.int 0, .int 0, .null, .null, .null, .null, .null, .null, .int 0, .int 0, .null, .int 0, .int 0, .int 0, .null, .int 0, .int 0, .int 0, .null, .null, .null, .null]) rfl hiX9 tyX9 tyX9_ok mk_L_119 mn_X9 mz_X9 (fun j hj => by rcases (show j = 0 ∨ j = 1 ∨ j = 2 ∨ j = 3 ∨ j = 4 ∨ j = 5 ∨ j = 6 ∨ j = 7 ∨ j = 8 ∨ j = 9 ∨ j = 10 ∨ j = 11 ∨ j = 12 ∨ j = 13 ∨ j = 14 ∨ j = 15 ∨ j = 16 ∨ j = 17 ∨ j = 18 ∨ j = 19 ∨ j = 20 ∨ j = 21 by omega) with rfl | rfl | rfl | rfl | rfl | rfl | rfl | rfl | rfl | rfl | rfl | rfl | rfl | rfl | rfl | rfl | rfl | rfl | rfl | rfl | rfl | rfl <;> rfl) (Nat.le_of_ble_eq_true rfl) (Nat.le_of_ble_eq_true rfl) dL_law_8 (fun q38 H f39 nq38 hf39 G hzq38 => ?_)
  have k41 : f39 q38 = some (.inr (11, [.int 0, .int 0, .null, .null, .null, .null, .null, .null, .int 0, .int 0, .null, .int 0, .int 0, .int 0, .null, .int 0, .int 0, .int 0, .null, .null, .null, .null])) := hus hf39
  refine lv_dup hx hb dL_law_11 rfl ?_
  have z42 : q38 < _ := (G.1 _ _ k41).1.lt
  refine g_cV C0 G (g_runI C0 G (rest := [.ref q38]) (k_X9_init hfl k41) hY_X9_init mm_L_121 mi_X9_init rfl ⟨(Nat.le_of_ble_eq_true rfl), (Nat.le_of_ble_eq_true rfl)⟩ rfl hl.1 rfl (Nat.le_of_ble_eq_true rfl) dL_law_12 ⟨(Nat.le_of_ble_eq_true rfl), (Nat.le_of_ble_eq_true rfl)⟩) (kx_no rfl) (fun u44 H locs hp43 G => ?_)
  obtain ⟨v, im, kp, pa, de, ide, mtx, pt, so, mo, wh, pf, w0, w1, w2, w3, w4, w5, w6, w7, w8, w9, w10, w11, h_v, h_im, h_kp, h_pa, h_de, h_ide, h_mtx, h_pt, h_so, h_mo, h_wh, h_pf, h_m, fr82⟩ := hp43
  refine lv_astore_n (lv' := [(2, .ref q38), (1, .ref q1), (0, .ref b)]) hx hb dL_law_15 rfl hl (by decide) rfl (fun ls hl => ?_)
  refine lv_iconst (v := 1) hx hb dL_law_16 (by decide) ?_
  have zq85 := G.2.1
  have z87 : pf < _ := (G.1 _ _ h_pf).1.lt
  refine g_newa (atype := .long) (ty := .long) C0 G ma_long rfl 5 rfl (n := 1) (N' := 1) (a0 := (1, .inr (.inl (fun _ => 0)))) (fun cA => rfl) (by decide) rfl (Nat.le_of_ble_eq_true rfl) (Nat.le_of_ble_eq_true rfl) (Nat.le_of_ble_eq_true rfl) dL_law_17 (fun q85 H f86 nq85 hf86 G hzq85 => ?_)
  have k88 : f86 q85 = some (.inl (cy 5, 1, .inr (.inl (fun _ => 0)))) := hus hf86
  refine lv_astore_n (lv' := [(3, .ref q85), (2, .ref q38), (1, .ref q1), (0, .ref b)]) hx hb dL_law_19 rfl hl (by decide) rfl (fun ls hl => ?_)
  refine lv_iconst (v := 1) hx hb dL_law_20 (by decide) ?_
  have zq91 := G.2.1
  have z93 : q85 < _ := (G.1 _ _ k88).1.lt
  refine g_newa (atype := .double) (ty := .double) C0 G ma_double rfl 6 rfl (n := 1) (N' := 1) (a0 := (1, .inr (.inr (.inr (.inl (fun _ => 0)))))) (fun cA => rfl) (by decide) rfl (Nat.le_of_ble_eq_true rfl) (Nat.le_of_ble_eq_true rfl) (Nat.le_of_ble_eq_true rfl) dL_law_21 (fun q91 H f92 nq91 hf92 G hzq91 => ?_)
  have k94 : f92 q91 = some (.inl (cy 6, 1, .inr (.inr (.inr (.inl (fun _ => 0)))))) := hus hf92
  refine lv_astore (lv' := [(4, .ref q91), (3, .ref q85), (2, .ref q38), (1, .ref q1), (0, .ref b)]) hx hb dL_law_23 hl (by decide) rfl (fun ls hl => ?_)
  refine lv_iconst (v := 0) hx hb dL_law_25 (by decide) ?_
  refine lv_istore (lv' := [(5, .int 0), (4, .ref q91), (3, .ref q85), (2, .ref q38), (1, .ref q1), (0, .ref b)]) hx hb dL_law_26 hl (by decide) rfl (fun ls hl => ?_)
  have T6 : ∀ (a : Nat) (c : va_E), a ≠ q38 → a ≠ q85 → a ≠ q91 → u6 a = some c → f92 a = some c := fun a c n1 n2 n3 hc => hup hf92 n3 (hup hf86 n2 (fr82 _ _ n1 (hup hf39 n1 hc)))
  have T9 : ∀ (a : Nat) (c : va_E), a ≠ q85 → a ≠ q91 → u44 a = some c → f92 a = some c := fun a c n2 n3 hc => hup hf92 n3 (hup hf86 n2 hc)
  have hlt : ∀ i, i < 108 → A i ≤ A 107 := fun i hi => mono_le hA1 (by omega)
  have hA0 := hlt 0 (by omega)
  have hW := WJ_0 (sc := q1) (f := f92) (cy := cy) (A := A) (q := q) (q2 := q2) (outD := q91) (out := q85) (m := q38) (by omega) hA1 g1 ⟨by omega, by omega, by omega, by omega, by omega, by omega, by omega, by omega, by omega, by omega, by omega, by omega, by omega, by omega, by omega, by omega, by omega, by omega, by omega, by omega, by omega, by omega, by omega, by omega, by omega, by omega, by omega, by omega, by omega, by omega⟩ (fun k hk => T6 _ _ (by have := hlt (0 + k) (by omega); omega) (by have := hlt (0 + k) (by omega); omega) (by have := hlt (0 + k) (by omega); omega) (hM k hk)) hQ (fun k hk => T6 _ _ (by have := hlt (54 + k) (by omega); omega) (by have := hlt (54 + k) (by omega); omega) (by have := hlt (54 + k) (by omega); omega) (hM2 k hk)) hQ2 (T6 _ _ (by omega) (by omega) (by omega) h_sc) (T6 _ _ (by omega) (by omega) (by omega) h_lg) (T6 _ _ (by omega) (by omega) (by omega) h_lst) (T6 _ _ (by omega) (by omega) (by omega) h_len) (T6 _ _ (by omega) (by omega) (by omega) h_sv) (T6 _ _ (by omega) (by omega) (by omega) h_sst) (T6 _ _ (by omega) (by omega) (by omega) h_sen) (T6 _ _ (by omega) (by omega) (by omega) h_tx) (T6 _ _ (by omega) (by omega) (by omega) h_bf) (T6 _ _ (by omega) (by omega) (by omega) h_tp) (T6 _ _ (by omega) (by omega) (by omega) h_r0) (T6 _ _ (by omega) (by omega) (by omega) h_r0e) (T6 _ _ (by omega) (by omega) (by omega) h_r1) (T6 _ _ (by omega) (by omega) (by omega) h_r1e) (T9 _ _ (by omega) (by omega) h_m) (T9 _ _ (by omega) (by omega) h_v) (T9 _ _ (by omega) (by omega) h_im) (T9 _ _ (by omega) (by omega) h_kp) (T9 _ _ (by omega) (by omega) h_pa) (T9 _ _ (by omega) (by omega) h_de) (T9 _ _ (by omega) (by omega) h_ide) (T9 _ _ (by omega) (by omega) h_mtx) (T9 _ _ (by omega) (by omega) h_pt) (T9 _ _ (by omega) (by omega) h_so) (T9 _ _ (by omega) (by omega) h_mo) (T9 _ _ (by omega) (by omega) h_wh) (T9 _ _ (by omega) (by omega) h_pf) (hup hf92 (by omega) k88) k94
  exact law_loop hfl C9 C0 hL 513 0 0 _ _ _ _ _ _ _ (by omega) (by decide) (by decide) hW G (lv_sub hl [5, 4, 3, 2, 1, 0] rfl) (Or.inl rfl)
