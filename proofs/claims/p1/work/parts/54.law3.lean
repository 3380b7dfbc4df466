set_option maxRecDepth 100000 in
theorem whole_start {p : Program} {e : Env} {s : State} {m : MethodId} {below : List Frame} {meth : Method} {c : Code} (l : Launch) (hflags : l.flags = flags0) {b L : Nat} {xs : Nat → Int32} (hL : L ≤ 6) (C9 : lw_At p s m meth c b L xs) : W p l e room_1 s m #[Value.ref b] below meth c s.heap [] 0 0 (lw_Z below #[Value.ref b] s) (entryFrame m ([Value.ref b] : List Value).toArray 9) := by
  obtain ⟨hx, hb, hr, hml, hown, hts, hX, hbl, hlocks, hgv⟩ := id C9
  have hbA : ¬ hA f00 s.heap.size b := fun q => by
    rcases q with q | q
    · exact q rfl
    · omega
  obtain ⟨D, cy, C0⟩ := law_C hflags C9
  have hfl : l.stackTraces = false := C0.2.2.2.2.2.2.1
  have hl := lv_entry ([.ref b]) (n := 9) (Nat.le_of_ble_eq_true rfl)
  rw [lg_entry_eq]
  generalize (lg_sl ([.ref b]) ++ List.replicate (9 - (lg_sl ([.ref b])).length) Slot.unset).toArray = ls at hl ⊢
  have hl : lv_has ls 9 [(0, .ref b)] := hl
  have G : hG D (hA f00 s.heap.size) f00 s s.heap [] := law_G
  have zq1 := G.2.1
  refine g_new C0 G (ci := 10) (fs := [.null, .null, .null, .null, .null, .null, .null, .int 0, .int 0, .int 0]) rfl hiX8 tyX8 tyX8_ok mk_L_8 mn_X8 mz_X8 (fun j hj => by rcases (show j = 0 ∨ j = 1 ∨ j = 2 ∨ j = 3 ∨ j = 4 ∨ j = 5 ∨ j = 6 ∨ j = 7 ∨ j = 8 ∨ j = 9 by omega) with rfl | rfl | rfl | rfl | rfl | rfl | rfl | rfl | rfl | rfl <;> rfl) (Nat.le_of_ble_eq_true rfl) (Nat.le_of_ble_eq_true rfl) dL_law_0 (fun q1 H f2 nq1 hf2 G hzq1 => ?_)
  have k3 : f2 q1 = some (.inr (10, [.null, .null, .null, .null, .null, .null, .null, .int 0, .int 0, .int 0])) := hus hf2
  refine lv_dup hx hb dL_law_3 rfl ?_
  have z4 : q1 < _ := (G.1 _ _ k3).1.lt
  refine g_cV C0 G (g_runI C0 G (rest := [.ref q1]) (k_X8_init hfl k3) hY_X8_init mm_L_118 mi_X8_init rfl ⟨(Nat.le_of_ble_eq_true rfl), (Nat.le_of_ble_eq_true rfl)⟩ rfl hl.1 rfl (Nat.le_of_ble_eq_true rfl) dL_law_4 ⟨(Nat.le_of_ble_eq_true rfl), (Nat.le_of_ble_eq_true rfl)⟩) (kx_no rfl) (fun u6 H locs hp5 G => ?_)
  obtain ⟨m0, al, i0, i1, i2, i3, i4, i5, i6, i7, i8, i9, i10, i11, i12, lg, ln, lst, len, sv, sn, sst, sen, tx, bf, tn, tp, r0, r0e, r1, r1e, m1, g0, o7, o8, o9, o10, o11, o12, o13, o14, o15, o16, o17, o18, o19, o20, o21, o22, o23, o24, o25, o26, o27, o28, o29, o30, o31, o32, o33, o34, o35, o36, o37, h_m0, h_al, h_i0, h_i1, h_i2, h_i3, h_i4, h_i5, h_i6, h_i7, h_i8, h_i9, h_i10, h_i11, h_i12, h_lg, h_ln, h_lst, h_len, h_sv, h_sn, h_sst, h_sen, h_tx, h_bf, h_tn, h_tp, h_r0, h_r0e, h_r1, h_r1e, hg0, h_sc, hfr_sc⟩ := hp5
  refine lv_astore_n (lv' := [(1, .ref q1), (0, .ref b)]) hx hb dL_law_7 rfl hl (by decide) rfl (fun ls hl => ?_)
  have zq38 := G.2.1
  have z40 : r1e < _ := (G.1 _ _ h_r1e).1.lt
  refine g_new C0 G (ci := 11) (fs := [.int 0, .int 0, .null, .null, .null, .null, .null, .null, .int 0, .int 0, .null, .int 0, .int 0, .int 0, .null, .int 0, .int 0, .int 0, .null, .null, .null, .null]) rfl hiX9 tyX9 tyX9_ok mk_L_119 mn_X9 mz_X9 (fun j hj => by rcases (show j = 0 ∨ j = 1 ∨ j = 2 ∨ j = 3 ∨ j = 4 ∨ j = 5 ∨ j = 6 ∨ j = 7 ∨ j = 8 ∨ j = 9 ∨ j = 10 ∨ j = 11 ∨ j = 12 ∨ j = 13 ∨ j = 14 ∨ j = 15 ∨ j = 16 ∨ j = 17 ∨ j = 18 ∨ j = 19 ∨ j = 20 ∨ j = 21 by omega) with rfl | rfl | rfl | rfl | rfl | rfl | rfl | rfl | rfl | rfl | rfl | rfl | rfl | rfl | rfl | rfl | rfl | rfl | rfl | rfl | rfl | rfl <;> rfl) (Nat.le_of_ble_eq_true rfl) (Nat.le_of_ble_eq_true rfl) dL_law_8 (fun q38 H f39 nq38 hf39 G hzq38 => ?_)
  have k41 : f39 q38 = some (.inr (11, [.int 0, .int 0, .null, .null, .null, .null, .null, .null, .int 0, .int 0, .null, .int 0, .int 0, .int 0, .null, .int 0, .int 0, .int 0, .null, .null, .null, .null])) := hus hf39
  refine lv_dup hx hb dL_law_11 rfl ?_
  have z42 : q38 < _ := (G.1 _ _ k41).1.lt
  refine g_cV C0 G (g_runI C0 G (rest := [.ref q38]) (k_X9_init hfl  k41) hY_X9_init mm_L_121 mi_X9_init rfl ⟨(Nat.le_of_ble_eq_true rfl), (Nat.le_of_ble_eq_true rfl)⟩ rfl hl.1 rfl (Nat.le_of_ble_eq_true rfl) dL_law_12 ⟨(Nat.le_of_ble_eq_true rfl), (Nat.le_of_ble_eq_true rfl)⟩) (kx_no rfl) (fun u44 H locs hp43 G => ?_)
  obtain ⟨q45, q46, q47, q48, q49, q50, q51, q52, q53, q54, q55, q56, o57, o58, o59, o60, o61, o62, o63, o64, o65, o66, o67, o68, k69, k70, k71, k72, k73, k74, k75, k76, k77, k78, k79, k80, k81, fr82⟩ := hp43
  refine lv_astore_n (lv' := [(2, .ref q38), (1, .ref q1), (0, .ref b)]) hx hb dL_law_15 rfl hl (by decide) rfl (fun ls hl => ?_)
  refine lv_iconst (v := 1) hx hb dL_law_16 (by decide) ?_
  have zq85 := G.2.1
  have z87 : q56 < _ := (G.1 _ _ k80).1.lt
  refine g_newa (atype := .long) (ty := .long) C0 G ma_long rfl 5 rfl (n := 1) (N' := 1) (a0 := (1, .inr (.inl (fun _ => 0)))) (fun cA => rfl) (by decide) rfl (Nat.le_of_ble_eq_true rfl) (Nat.le_of_ble_eq_true rfl) (Nat.le_of_ble_eq_true rfl) dL_law_17 (fun q85 H f86 nq85 hf86 G hzq85 => ?_)
  have k88 : f86 q85 = some (.inl (cy 5, 1, .inr (.inl (fun _ => 0)))) := hus hf86
  refine lv_astore_n (lv' := [(3, .ref q85), (2, .ref q38), (1, .ref q1), (0, .ref b)]) hx hb dL_law_19 rfl hl (by decide) rfl (fun ls hl => ?_)
  refine lv_iconst (v := 1) hx hb dL_law_20 (by decide) ?_
  have zq91 := G.2.1
  have z93 : q85 < _ := (G.1 _ _ k88).1.lt
  refine g_newa (atype := .double) (ty := .double) C0 G ma_double rfl 6 rfl (n := 1) (N' := 1) (a0 := (1, .inr (.inr (.inr (.inl (fun _ => 0)))))) (fun cA => rfl) (by decide) rfl (Nat.le_of_ble_eq_true rfl) (Nat.le_of_ble_eq_true rfl) (Nat.le_of_ble_eq_true rfl) dL_law_21 (fun q91 H f92 nq91 hf92 G hzq91 => ?_)
  have k94 : f92 q91 = some (.inl (cy 6, 1, .inr (.inr (.inr (.inl (fun _ => 0)))))) := hus hf92
  refine lv_astore (lv' := [(4, .ref q91), (3, .ref q85), (2, .ref q38), (1, .ref q1), (0, .ref b)]) hx hb dL_law_23 hl (by decide) rfl (fun ls hl => ?_)
  refine lv_iconst (v := 0) hx hb dL_law_25 (by decide) ?_
  refine lv_istore (lv' := [(5, .int 0), (4, .ref q91), (3, .ref q85), (2, .ref q38), (1, .ref q1), (0, .ref b)]) hx hb dL_law_26 hl (by decide) rfl (fun ls hl => ?_)
  have k95 : f92 q1 = some (.inr (10, [.ref m0, .ref m1, .ref lg, .ref sv, .ref tx, .ref r0, .ref r1, .int (-1), .int (-1), .int 0])) := hup hf92 (by omega) (hup hf86 (by omega) (fr82 _ _ (by omega) (hup hf39 (by omega) h_sc)))
  have k96 : f92 m0 = some (.inr (4, [.ref al, .int 0, .int 0, .int 0, .int 0, .int 0])) := hup hf92 (by omega) (hup hf86 (by omega) (fr82 _ _ (by omega) (hup hf39 (by omega) h_m0)))
  have k97 : f92 al = some (.inl (cy 3, 4, .inr (.inr (.inr (.inr g0))))) := hup hf92 (by omega) (hup hf86 (by omega) (fr82 _ _ (by omega) (hup hf39 (by omega) h_al)))
  have k98 : f92 i0 = some (.inr (2, [.ref i1, .ref i3, .ref i5, .ref i7, .ref i9, .ref i11, .int 0, .int 0, .int 1, .int (-1), .int 0])) := hup hf92 (by omega) (hup hf86 (by omega) (fr82 _ _ (by omega) (hup hf39 (by omega) h_i0)))
  have k99 : f92 i1 = some (.inr (8, [.int 8, .ref i2, .int 0])) := hup hf92 (by omega) (hup hf86 (by omega) (fr82 _ _ (by omega) (hup hf39 (by omega) h_i1)))
  have k100 : f92 i2 = some (.inl (cy 0, 8, .inl (fun _ => 0))) := hup hf92 (by omega) (hup hf86 (by omega) (fr82 _ _ (by omega) (hup hf39 (by omega) h_i2)))
  have k101 : f92 i3 = some (.inr (8, [.int 6, .ref i4, .int 0])) := hup hf92 (by omega) (hup hf86 (by omega) (fr82 _ _ (by omega) (hup hf39 (by omega) h_i3)))
  have k102 : f92 i4 = some (.inl (cy 0, 66, .inl (fun _ => 0))) := hup hf92 (by omega) (hup hf86 (by omega) (fr82 _ _ (by omega) (hup hf39 (by omega) h_i4)))
  have k103 : f92 i5 = some (.inr (8, [.int 7, .ref i6, .int 0])) := hup hf92 (by omega) (hup hf86 (by omega) (fr82 _ _ (by omega) (hup hf39 (by omega) h_i5)))
  have k104 : f92 i6 = some (.inl (cy 0, 77, .inl (fun _ => 0))) := hup hf92 (by omega) (hup hf86 (by omega) (fr82 _ _ (by omega) (hup hf39 (by omega) h_i6)))
  have k105 : f92 i7 = some (.inr (8, [.int 8, .ref i8, .int 0])) := hup hf92 (by omega) (hup hf86 (by omega) (fr82 _ _ (by omega) (hup hf39 (by omega) h_i7)))
  have k106 : f92 i8 = some (.inl (cy 0, 4104, .inl (fun _ => 0))) := hup hf92 (by omega) (hup hf86 (by omega) (fr82 _ _ (by omega) (hup hf39 (by omega) h_i8)))
  have k107 : f92 i9 = some (.inr (8, [.int 3, .ref i10, .int 0])) := hup hf92 (by omega) (hup hf86 (by omega) (fr82 _ _ (by omega) (hup hf39 (by omega) h_i9)))
  have k108 : f92 i10 = some (.inl (cy 0, 33, .inl (fun _ => 0))) := hup hf92 (by omega) (hup hf86 (by omega) (fr82 _ _ (by omega) (hup hf39 (by omega) h_i10)))
  have k109 : f92 i11 = some (.inr (5, [.ref i12, .int 0, .int 0, .int 0, .int (-1), .int (-1), .int 0, .int 0, .int 0])) := hup hf92 (by omega) (hup hf86 (by omega) (fr82 _ _ (by omega) (hup hf39 (by omega) h_i11)))
  have k110 : f92 i12 = some (.inl (cy 0, 20, .inl (fun _ => 0))) := hup hf92 (by omega) (hup hf86 (by omega) (fr82 _ _ (by omega) (hup hf39 (by omega) h_i12)))
  have k111 : f92 lg = some (.inr (3, [.ref ln, .ref lst, .ref len, .int 0, .int 0, .int 0, .int 0, .int 0, .int 0])) := hup hf92 (by omega) (hup hf86 (by omega) (fr82 _ _ (by omega) (hup hf39 (by omega) h_lg)))
  have k112 : f92 ln = some (.inr (7, [.int 0, .int 0, .int 0, .int 0, .int 0, .int 0, .int 0, .int 0, .int 0])) := hup hf92 (by omega) (hup hf86 (by omega) (fr82 _ _ (by omega) (hup hf39 (by omega) h_ln)))
  have k113 : f92 lst = some (.inl (cy 4, 512, .inr (.inr (.inr (.inr (sfl ln 512)))))) := hup hf92 (by omega) (hup hf86 (by omega) (fr82 _ _ (by omega) (hup hf39 (by omega) h_lst)))
  have k114 : f92 len = some (.inl (cy 0, 512, .inl (fun _ => 0))) := hup hf92 (by omega) (hup hf86 (by omega) (fr82 _ _ (by omega) (hup hf39 (by omega) h_len)))
  have k115 : f92 sv = some (.inr (3, [.ref sn, .ref sst, .ref sen, .int 0, .int 0, .int 0, .int 0, .int 0, .int 0])) := hup hf92 (by omega) (hup hf86 (by omega) (fr82 _ _ (by omega) (hup hf39 (by omega) h_sv)))
  have k116 : f92 sn = some (.inr (7, [.int 0, .int 0, .int 0, .int 0, .int 0, .int 0, .int 0, .int 0, .int 0])) := hup hf92 (by omega) (hup hf86 (by omega) (fr82 _ _ (by omega) (hup hf39 (by omega) h_sn)))
  have k117 : f92 sst = some (.inl (cy 4, 512, .inr (.inr (.inr (.inr (sfl sn 512)))))) := hup hf92 (by omega) (hup hf86 (by omega) (fr82 _ _ (by omega) (hup hf39 (by omega) h_sst)))
  have k118 : f92 sen = some (.inl (cy 0, 512, .inl (fun _ => 0))) := hup hf92 (by omega) (hup hf86 (by omega) (fr82 _ _ (by omega) (hup hf39 (by omega) h_sen)))
  have k119 : f92 tx = some (.inr (9, [.ref bf, .ref tn, .ref tp, .int 0, .int 0])) := hup hf92 (by omega) (hup hf86 (by omega) (fr82 _ _ (by omega) (hup hf39 (by omega) h_tx)))
  have k120 : f92 bf = some (.inl (cy 1, 60, .inl (fun _ => 0))) := hup hf92 (by omega) (hup hf86 (by omega) (fr82 _ _ (by omega) (hup hf39 (by omega) h_bf)))
  have k121 : f92 tn = some (.inr (7, [.int 0, .int 0, .int 0, .int 0, .int 0, .int 0, .int 0, .int 0, .int 0])) := hup hf92 (by omega) (hup hf86 (by omega) (fr82 _ _ (by omega) (hup hf39 (by omega) h_tn)))
  have k122 : f92 tp = some (.inl (cy 4, 60, .inr (.inr (.inr (.inr (sfl tn 60)))))) := hup hf92 (by omega) (hup hf86 (by omega) (fr82 _ _ (by omega) (hup hf39 (by omega) h_tp)))
  have k123 : f92 r0 = some (.inr (6, [.ref r0e, .int 0, .int 0, .int 0])) := hup hf92 (by omega) (hup hf86 (by omega) (fr82 _ _ (by omega) (hup hf39 (by omega) h_r0)))
  have k124 : f92 r0e = some (.inl (cy 2, 20, .inr (.inr (.inl (fun _ => 0))))) := hup hf92 (by omega) (hup hf86 (by omega) (fr82 _ _ (by omega) (hup hf39 (by omega) h_r0e)))
  have k125 : f92 r1 = some (.inr (6, [.ref r1e, .int 0, .int 0, .int 0])) := hup hf92 (by omega) (hup hf86 (by omega) (fr82 _ _ (by omega) (hup hf39 (by omega) h_r1)))
  have k126 : f92 r1e = some (.inl (cy 2, 20, .inr (.inr (.inl (fun _ => 0))))) := hup hf92 (by omega) (hup hf86 (by omega) (fr82 _ _ (by omega) (hup hf39 (by omega) h_r1e)))
  have k127 : f92 q38 = some (.inr (11, [.int 0, .int 0, .ref q45, .ref q46, .ref q47, .ref q48, .ref q49, .ref q50, .int 0, .int 0, .ref q51, .int 0, .int (-1), .int (-1), .ref q52, .int 0, .int 0, .int 0, .ref q53, .ref q54, .ref q55, .ref q56])) := hup hf92 (by omega) (hup hf86 (by omega) k81)
  have k128 : f92 q45 = some (.inl (cy 0, 6441, .inl (fun _ => 0))) := hup hf92 (by omega) (hup hf86 (by omega) k69)
  have k129 : f92 q46 = some (.inl (cy 0, 6441, .inl (fun _ => 0))) := hup hf92 (by omega) (hup hf86 (by omega) k70)
  have k130 : f92 q47 = some (.inl (cy 0, 6441, .inl (fun _ => 0))) := hup hf92 (by omega) (hup hf86 (by omega) k71)
  have k131 : f92 q48 = some (.inl (cy 0, 51528, .inl (fun _ => 0))) := hup hf92 (by omega) (hup hf86 (by omega) k72)
  have k132 : f92 q49 = some (.inl (cy 0, 24000, .inl (fun _ => 0))) := hup hf92 (by omega) (hup hf86 (by omega) k73)
  have k133 : f92 q50 = some (.inl (cy 0, 24000, .inl (fun _ => 0))) := hup hf92 (by omega) (hup hf86 (by omega) k74)
  have k134 : f92 q51 = some (.inl (cy 0, 60, .inl (fun _ => 0))) := hup hf92 (by omega) (hup hf86 (by omega) k75)
  have k135 : f92 q52 = some (.inl (cy 0, 240, .inl (fun _ => 0))) := hup hf92 (by omega) (hup hf86 (by omega) k76)
  have k136 : f92 q53 = some (.inl (cy 0, 2, .inl (fun _ => 0))) := hup hf92 (by omega) (hup hf86 (by omega) k77)
  have k137 : f92 q54 = some (.inl (cy 0, 2, .inl (fun _ => 0))) := hup hf92 (by omega) (hup hf86 (by omega) k78)
  have k138 : f92 q55 = some (.inl (cy 0, 42, .inl (fun _ => 0))) := hup hf92 (by omega) (hup hf86 (by omega) k79)
  have k139 : f92 q56 = some (.inl (cy 2, 42, .inr (.inr (.inl (fun _ => 0))))) := hup hf92 (by omega) (hup hf86 (by omega) k80)
  have k140 : f92 q85 = some (.inl (cy 5, 1, .inr (.inl (fun _ => 0)))) := hup hf92 (by omega) k88
  have hord : q1 < m0 ∧ m0 < al ∧ al < i0 ∧ i0 < i1 ∧ i1 < i2 ∧ i2 < i3 ∧ i3 < i4 ∧ i4 < i5 ∧ i5 < i6 ∧ i6 < i7 ∧ i7 < i8 ∧ i8 < i9 ∧ i9 < i10 ∧ i10 < i11 ∧ i11 < i12 ∧ i12 < lg ∧ lg < ln ∧ ln < lst ∧ lst < len ∧ len < sv ∧ sv < sn ∧ sn < sst ∧ sst < sen ∧ sen < tx ∧ tx < bf ∧ bf < tn ∧ tn < tp ∧ tp < r0 ∧ r0 < r0e ∧ r0e < r1 ∧ r1 < r1e ∧ r1e < q38 ∧ q38 < q45 ∧ q45 < q46 ∧ q46 < q47 ∧ q47 < q48 ∧ q48 < q49 ∧ q49 < q50 ∧ q50 < q51 ∧ q51 < q52 ∧ q52 < q53 ∧ q53 < q54 ∧ q54 < q55 ∧ q55 < q56 ∧ q56 < q85 ∧ q85 < q91 := ⟨by omega, by omega, by omega, by omega, by omega, by omega, by omega, by omega, by omega, by omega, by omega, by omega, by omega, by omega, by omega, by omega, by omega, by omega, by omega, by omega, by omega, by omega, by omega, by omega, by omega, by omega, by omega, by omega, by omega, by omega, by omega, by omega, by omega, by omega, by omega, by omega, by omega, by omega, by omega, by omega, by omega, by omega, by omega, by omega, by omega, by omega⟩
  refine lv_iload hx hb dL_law_28 (lv_at hl 0 rfl) ?_
  refine lv_aload_n hx hb dL_law_30 rfl (lv_at hl 5 rfl) ?_
  refine va_slen hx hb hX hbl hbA G.2 dL_law_31 ?_
  refine lv_bipush (v := 6) hx hb dL_law_32 (by decide) ?_
  refine lv_isub hx hb dL_law_34 ?_
  refine lv_icmp_gt (tgt := 2170) hx hb dL_law_35 (by decide) (fun _ => law_end C9 G (Nat.le_of_ble_eq_true rfl) (Nat.le_of_ble_eq_true rfl)) (fun c9 => ?_)
  have hL6 : L = 6 := by
    have h9 : L = 0 ∨ L = 1 ∨ L = 2 ∨ L = 3 ∨ L = 4 ∨ L = 5 ∨ L = 6 := by omega
    rcases h9 with rfl | rfl | rfl | rfl | rfl | rfl | rfl <;> first | rfl | exact absurd (by decide) c9
  subst hL6
  refine lv_aload_n hx hb dL_law_38 rfl (lv_at hl 5 rfl) ?_
  refine lv_iload hx hb dL_law_39 (lv_at hl 0 rfl) ?_
  refine va_sld hx hb hX hbl hbA G.2 (i := 0) (by unfold vp_in; decide) dL_law_41 ?_
  refine lv_bipush (v := 31) hx hb dL_law_42 (by decide) ?_
  refine lv_iand hx hb dL_law_44 ?_
  refine lv_topi (fun k9 hk9 => ?_)
  by_cases s141 : k9 = 0
  · refine lv_tableIn (off := 139) (tgt := 184) hx hb dL_law_45 (by rw [s141]; decide) (by rw [s141]; decide) (by rw [s141]; rfl) (by decide) ?_
    exact law_case_0 hfl C9 C0 hord hg0 G (lv_sub hl [5, 4, 3, 2, 1, 0] rfl) k95 k96 k97 k98 k99 k100 k101 k102 k103 k104 k105 k106 k107 k108 k109 k110 k111 k127 k128 k140
  by_cases s142 : k9 = 1
  · refine lv_tableIn (off := 219) (tgt := 264) hx hb dL_law_45 (by rw [s142]; decide) (by rw [s142]; decide) (by rw [s142]; rfl) (by decide) ?_
    exact law_case_1 hfl C9 C0 hord hg0 G (lv_sub hl [5, 4, 3, 2, 1, 0] rfl) k95 k96 k127 k128
  by_cases s143 : k9 = 2
  · refine lv_tableIn (off := 275) (tgt := 320) hx hb dL_law_45 (by rw [s143]; decide) (by rw [s143]; decide) (by rw [s143]; rfl) (by decide) ?_
    exact law_case_2 hfl C9 C0 hord hg0 G (lv_sub hl [5, 4, 3, 2, 1, 0] rfl) k95 k96 k127 k128
  by_cases s144 : k9 = 3
  · refine lv_tableIn (off := 371) (tgt := 416) hx hb dL_law_45 (by rw [s144]; decide) (by rw [s144]; decide) (by rw [s144]; rfl) (by decide) ?_
    exact law_case_3 hfl C9 C0 hord hg0 G (lv_sub hl [5, 4, 3, 2, 1, 0] rfl) k95 k96 k127 k128
  by_cases s145 : k9 = 4
  · refine lv_tableIn (off := 507) (tgt := 552) hx hb dL_law_45 (by rw [s145]; decide) (by rw [s145]; decide) (by rw [s145]; rfl) (by decide) ?_
    exact law_case_4 hfl C9 C0 hord hg0 G (lv_sub hl [5, 4, 3, 2, 1, 0] rfl) k95 k96 k127 k128
  by_cases s146 : k9 = 5
  · refine lv_tableIn (off := 607) (tgt := 652) hx hb dL_law_45 (by rw [s146]; decide) (by rw [s146]; decide) (by rw [s146]; rfl) (by decide) ?_
    exact law_case_5 hfl C9 C0 hord hg0 G (lv_sub hl [5, 4, 3, 2, 1, 0] rfl) k95 k96 k127 k128
  by_cases s147 : k9 = 6
  · refine lv_tableIn (off := 663) (tgt := 708) hx hb dL_law_45 (by rw [s147]; decide) (by rw [s147]; decide) (by rw [s147]; rfl) (by decide) ?_
    exact law_case_6 hfl C9 C0 hord hg0 G (lv_sub hl [5, 4, 3, 2, 1, 0] rfl) k95 k96 k127 k128
  by_cases s148 : k9 = 7
  · refine lv_tableIn (off := 707) (tgt := 752) hx hb dL_law_45 (by rw [s148]; decide) (by rw [s148]; decide) (by rw [s148]; rfl) (by decide) ?_
    exact law_case_7 hfl C9 C0 hord hg0 G (lv_sub hl [5, 4, 3, 2, 1, 0] rfl) k95 k96 k127 k128
  by_cases s149 : k9 = 8
  · refine lv_tableIn (off := 763) (tgt := 808) hx hb dL_law_45 (by rw [s149]; decide) (by rw [s149]; decide) (by rw [s149]; rfl) (by decide) ?_
    exact law_case_8 hfl C9 C0 hord hg0 G (lv_sub hl [5, 4, 3, 2, 1, 0] rfl) k95 k119 k120 k127 k134 k140
  by_cases s150 : k9 = 9
  · refine lv_tableIn (off := 821) (tgt := 866) hx hb dL_law_45 (by rw [s150]; decide) (by rw [s150]; decide) (by rw [s150]; rfl) (by decide) ?_
    exact law_case_9 hfl C9 C0 hord hg0 G (lv_sub hl [5, 4, 3, 2, 1, 0] rfl) k95 k119 k127 k128
  by_cases s151 : k9 = 10
  · refine lv_tableIn (off := 865) (tgt := 910) hx hb dL_law_45 (by rw [s151]; decide) (by rw [s151]; decide) (by rw [s151]; rfl) (by decide) ?_
    exact law_case_10 hfl C9 C0 hord hg0 G (lv_sub hl [5, 4, 3, 2, 1, 0] rfl) k95 k127
  by_cases s152 : k9 = 11
  · refine lv_tableIn (off := 909) (tgt := 954) hx hb dL_law_45 (by rw [s152]; decide) (by rw [s152]; decide) (by rw [s152]; rfl) (by decide) ?_
    exact law_case_11 hfl C9 C0 hord hg0 G (lv_sub hl [5, 4, 3, 2, 1, 0] rfl) k95 k127
  by_cases s153 : k9 = 12
  · refine lv_tableIn (off := 953) (tgt := 998) hx hb dL_law_45 (by rw [s153]; decide) (by rw [s153]; decide) (by rw [s153]; rfl) (by decide) ?_
    exact law_case_12 hfl C9 C0 hord hg0 G (lv_sub hl [5, 4, 3, 2, 1, 0] rfl) k95 k111 k127 k128
  by_cases s154 : k9 = 13
  · refine lv_tableIn (off := 1009) (tgt := 1054) hx hb dL_law_45 (by rw [s154]; decide) (by rw [s154]; decide) (by rw [s154]; rfl) (by decide) ?_
    exact law_case_13 hfl C9 C0 hord hg0 G (lv_sub hl [5, 4, 3, 2, 1, 0] rfl) k95 k96 k127 k128
  by_cases s155 : k9 = 14
  · refine lv_tableIn (off := 1077) (tgt := 1122) hx hb dL_law_45 (by rw [s155]; decide) (by rw [s155]; decide) (by rw [s155]; rfl) (by decide) ?_
    exact law_case_14 hfl C9 C0 hord hg0 G (lv_sub hl [5, 4, 3, 2, 1, 0] rfl) k95 k96 k127 k128
  by_cases s156 : k9 = 15
  · refine lv_tableIn (off := 1157) (tgt := 1202) hx hb dL_law_45 (by rw [s156]; decide) (by rw [s156]; decide) (by rw [s156]; rfl) (by decide) ?_
    exact law_case_15 hfl C9 C0 hord hg0 G (lv_sub hl [5, 4, 3, 2, 1, 0] rfl) k95 k96 k127 k128
  by_cases s157 : k9 = 16
  · refine lv_tableIn (off := 1237) (tgt := 1282) hx hb dL_law_45 (by rw [s157]; decide) (by rw [s157]; decide) (by rw [s157]; rfl) (by decide) ?_
    exact law_case_16 hfl C9 C0 hord hg0 G (lv_sub hl [5, 4, 3, 2, 1, 0] rfl) k95 k96 k127 k128
  by_cases s158 : k9 = 17
  · refine lv_tableIn (off := 1317) (tgt := 1362) hx hb dL_law_45 (by rw [s158]; decide) (by rw [s158]; decide) (by rw [s158]; rfl) (by decide) ?_
    exact law_case_17 hfl C9 C0 hord hg0 G (lv_sub hl [5, 4, 3, 2, 1, 0] rfl) k95 k96 k127 k128
  by_cases s159 : k9 = 18
  · refine lv_tableIn (off := 1397) (tgt := 1442) hx hb dL_law_45 (by rw [s159]; decide) (by rw [s159]; decide) (by rw [s159]; rfl) (by decide) ?_
    exact law_case_18 hfl C9 C0 hord hg0 G (lv_sub hl [5, 4, 3, 2, 1, 0] rfl) k95 k111 k127 k128
  by_cases s160 : k9 = 19
  · refine lv_tableIn (off := 1469) (tgt := 1514) hx hb dL_law_45 (by rw [s160]; decide) (by rw [s160]; decide) (by rw [s160]; rfl) (by decide) ?_
    exact law_case_19 hfl C9 C0 hord hg0 G (lv_sub hl [5, 4, 3, 2, 1, 0] rfl) k95 k96 k127 k128
  by_cases s161 : k9 = 20
  · refine lv_tableIn (off := 1482) (tgt := 1527) hx hb dL_law_45 (by rw [s161]; decide) (by rw [s161]; decide) (by rw [s161]; rfl) (by decide) ?_
    exact law_case_20 hfl C9 C0 hord hg0 G (lv_sub hl [5, 4, 3, 2, 1, 0] rfl) k95 k96 k127 k128
  by_cases s162 : k9 = 21
  · refine lv_tableIn (off := 1559) (tgt := 1604) hx hb dL_law_45 (by rw [s162]; decide) (by rw [s162]; decide) (by rw [s162]; rfl) (by decide) ?_
    exact law_case_21 hfl C9 C0 hord hg0 G (lv_sub hl [5, 4, 3, 2, 1, 0] rfl) k95 k96 k127 k128
  by_cases s163 : k9 = 22
  · refine lv_tableIn (off := 1649) (tgt := 1694) hx hb dL_law_45 (by rw [s163]; decide) (by rw [s163]; decide) (by rw [s163]; rfl) (by decide) ?_
    exact law_case_22 hfl C9 C0 hord hg0 G (lv_sub hl [5, 4, 3, 2, 1, 0] rfl) k95 k96 k127 k128
  by_cases s164 : k9 = 23
  · refine lv_tableIn (off := 1745) (tgt := 1790) hx hb dL_law_45 (by rw [s164]; decide) (by rw [s164]; decide) (by rw [s164]; rfl) (by decide) ?_
    exact law_case_23 hfl C9 C0 hord hg0 G (lv_sub hl [5, 4, 3, 2, 1, 0] rfl) k95 k123 k125 k127 k136 k137
  by_cases s165 : k9 = 24
  · refine lv_tableIn (off := 1820) (tgt := 1865) hx hb dL_law_45 (by rw [s165]; decide) (by rw [s165]; decide) (by rw [s165]; rfl) (by decide) ?_
    exact law_case_24 hfl C9 C0 hord hg0 G (lv_sub hl [5, 4, 3, 2, 1, 0] rfl) k95 k123 k125 k127 k136 k137
  by_cases s166 : k9 = 25
  · refine lv_tableIn (off := 1910) (tgt := 1955) hx hb dL_law_45 (by rw [s166]; decide) (by rw [s166]; decide) (by rw [s166]; rfl) (by decide) ?_
    exact law_case_25 hfl C9 C0 hord hg0 G (lv_sub hl [5, 4, 3, 2, 1, 0] rfl) k95 k127
  by_cases s167 : k9 = 26
  · refine lv_tableIn (off := 1923) (tgt := 1968) hx hb dL_law_45 (by rw [s167]; decide) (by rw [s167]; decide) (by rw [s167]; rfl) (by decide) ?_
    exact law_case_26 hfl C9 C0 hord hg0 G (lv_sub hl [5, 4, 3, 2, 1, 0] rfl) k95 k111 k127 k128
  by_cases s168 : k9 = 27
  · refine lv_tableIn (off := 1936) (tgt := 1981) hx hb dL_law_45 (by rw [s168]; decide) (by rw [s168]; decide) (by rw [s168]; rfl) (by decide) ?_
    exact law_case_27 hfl C9 C0 hord hg0 G (lv_sub hl [5, 4, 3, 2, 1, 0] rfl) k95 k111 k127
  by_cases s169 : k9 = 28
  · refine lv_tableIn (off := 1980) (tgt := 2025) hx hb dL_law_45 (by rw [s169]; decide) (by rw [s169]; decide) (by rw [s169]; rfl) (by decide) ?_
    exact law_case_28 hfl C9 C0 hord hg0 G (lv_sub hl [5, 4, 3, 2, 1, 0] rfl) k95 k111 k127 k128
  by_cases s170 : k9 = 29
  · refine lv_tableIn (off := 2031) (tgt := 2076) hx hb dL_law_45 (by rw [s170]; decide) (by rw [s170]; decide) (by rw [s170]; rfl) (by decide) ?_
    exact law_case_29 hfl C9 C0 hord hg0 G (lv_sub hl [5, 4, 3, 2, 1, 0] rfl) k95 k111 k127 k128
  by_cases s171 : k9 = 30
  · refine lv_tableIn (off := 2075) (tgt := 2120) hx hb dL_law_45 (by rw [s171]; decide) (by rw [s171]; decide) (by rw [s171]; rfl) (by decide) ?_
    exact law_case_30 hfl C9 C0 hord hg0 G (lv_sub hl [5, 4, 3, 2, 1, 0] rfl) k95 k115 k127
  have s172 : k9.toInt < 0 ∨ 30 < k9.toInt := by
    have ts141 : k9.toInt ≠ 0 := fun z => s141 (Int32.toInt_inj.mp z)
    have ts142 : k9.toInt ≠ 1 := fun z => s142 (Int32.toInt_inj.mp z)
    have ts143 : k9.toInt ≠ 2 := fun z => s143 (Int32.toInt_inj.mp z)
    have ts144 : k9.toInt ≠ 3 := fun z => s144 (Int32.toInt_inj.mp z)
    have ts145 : k9.toInt ≠ 4 := fun z => s145 (Int32.toInt_inj.mp z)
    have ts146 : k9.toInt ≠ 5 := fun z => s146 (Int32.toInt_inj.mp z)
    have ts147 : k9.toInt ≠ 6 := fun z => s147 (Int32.toInt_inj.mp z)
    have ts148 : k9.toInt ≠ 7 := fun z => s148 (Int32.toInt_inj.mp z)
    have ts149 : k9.toInt ≠ 8 := fun z => s149 (Int32.toInt_inj.mp z)
    have ts150 : k9.toInt ≠ 9 := fun z => s150 (Int32.toInt_inj.mp z)
    have ts151 : k9.toInt ≠ 10 := fun z => s151 (Int32.toInt_inj.mp z)
    have ts152 : k9.toInt ≠ 11 := fun z => s152 (Int32.toInt_inj.mp z)
    have ts153 : k9.toInt ≠ 12 := fun z => s153 (Int32.toInt_inj.mp z)
    have ts154 : k9.toInt ≠ 13 := fun z => s154 (Int32.toInt_inj.mp z)
    have ts155 : k9.toInt ≠ 14 := fun z => s155 (Int32.toInt_inj.mp z)
    have ts156 : k9.toInt ≠ 15 := fun z => s156 (Int32.toInt_inj.mp z)
    have ts157 : k9.toInt ≠ 16 := fun z => s157 (Int32.toInt_inj.mp z)
    have ts158 : k9.toInt ≠ 17 := fun z => s158 (Int32.toInt_inj.mp z)
    have ts159 : k9.toInt ≠ 18 := fun z => s159 (Int32.toInt_inj.mp z)
    have ts160 : k9.toInt ≠ 19 := fun z => s160 (Int32.toInt_inj.mp z)
    have ts161 : k9.toInt ≠ 20 := fun z => s161 (Int32.toInt_inj.mp z)
    have ts162 : k9.toInt ≠ 21 := fun z => s162 (Int32.toInt_inj.mp z)
    have ts163 : k9.toInt ≠ 22 := fun z => s163 (Int32.toInt_inj.mp z)
    have ts164 : k9.toInt ≠ 23 := fun z => s164 (Int32.toInt_inj.mp z)
    have ts165 : k9.toInt ≠ 24 := fun z => s165 (Int32.toInt_inj.mp z)
    have ts166 : k9.toInt ≠ 25 := fun z => s166 (Int32.toInt_inj.mp z)
    have ts167 : k9.toInt ≠ 26 := fun z => s167 (Int32.toInt_inj.mp z)
    have ts168 : k9.toInt ≠ 27 := fun z => s168 (Int32.toInt_inj.mp z)
    have ts169 : k9.toInt ≠ 28 := fun z => s169 (Int32.toInt_inj.mp z)
    have ts170 : k9.toInt ≠ 29 := fun z => s170 (Int32.toInt_inj.mp z)
    have ts171 : k9.toInt ≠ 30 := fun z => s171 (Int32.toInt_inj.mp z)
    omega
  refine lv_tableOut (tgt := 2164) hx hb dL_law_45 s172 (by decide) ?_
  exact law_tail hfl C9 C0 G (Nat.le_of_ble_eq_true rfl) (Nat.le_of_ble_eq_true rfl) (lv_sub hl [5, 0] rfl)
