theorem put_fr {f u : Hf} {x : Nat} {e : Option va_E} (h : u = va_up f x e) : hFrL f u [x] := fun a e1 h1 h2 => hup h (fun q => h1 (by rw [q]; simp)) h2
theorem MW_frN {A : Nat → Nat} {b : Nat} {cy : Nat → ClassId} {q : Nat → Option Nat} {cm : Nat → Int32} {cs : Nat → Nat → Nat → Int32} {f u : Hf} {L : List Nat} (h : MW A b cy q cm cs f) (hu : hFrL f u L) (hL : ∀ y ∈ L, y ∉ MA A b) : MW A b cy q cm cs u := MW_fr h hu (fun k hk hm => hL _ hm (MA_in hk))
theorem MW_nonew {A : Nat → Nat} {b : Nat} {cy : Nat → ClassId} {q : Nat → Option Nat} {cm : Nat → Int32} {cs : Nat → Nat → Nat → Int32} {f : Hf} (h : MW A b cy q cm cs f) {x : Nat} (hx : f x = none) : x ∉ MA A b := fun hm => by
  obtain ⟨k, hk, e⟩ := List.mem_map.mp hm
  have h9 := h k (List.mem_range.mp hk)
  rw [e, hx] at h9
  cases h9
def mkS (ty nu wy kd ru so sb sc sh : Int32) : Nat → Int32
  | 0 => ty
  | 1 => nu
  | 2 => wy
  | 3 => kd
  | 4 => ru
  | 5 => so
  | 6 => sb
  | 7 => sc
  | _ => sh
set_option maxRecDepth 100000 in
theorem c_X8_carryOutR {l : Launch} (hfl : l.stackTraces = false) {D : va_G} {cy : Nat → ClassId} {f : Hf} {sz : Nat} {x : Nat} {st : Nat} {A : Nat → Nat} {b : Nat} {b2 : Nat} {lg : Nat} {lg_o : Nat} {tx : Nat} {rz : Nat} {ro : Nat} {xea : Int32} {xra : Int32} {xkr : Int32} {ty : Int32} {nu : Int32} {wy : Int32} {kd : Int32} {ru : Int32} {so : Int32} {sb : Int32} {sc : Int32} {sh : Int32} {q : Nat → Option Nat} {cm : Nat → Int32} {cs : Nat → Nat → Nat → Int32} (h_x : f x = some (.inr (10, [.ref (A (b + 0)), .ref (A (b2 + 0)), .ref lg, .ref lg_o, .ref tx, .ref rz, .ref ro, .int xea, .int xra, .int xkr]))) (h_st : f st = some (.inr (7, [.int ty, .int nu, .int wy, .int kd, .int ru, .int so, .int sb, .int sc, .int sh]))) (hAj : ∀ i j : Nat, i ≠ j → A i ≠ A j) (hM : MW A b cy q cm cs f) (hQ : HQ A b q) (hPX : cm 0 = 0 ∨ PP cm cs) (hR : ¬ rfR cm cs (mkS ty nu wy kd ru so sb sc sh) = 0) : hMet l yX8_carryOut cX8_carryOut 3 (some .int) { frames := 6, cells := 1, slots := 6, locals := 89 } D (hTy cy) f sz [.ref x, .ref st] (hQi (fun r u => False) D f sz) (fun E u => E = "java/lang/IllegalStateException" ∧ u x = some (.inr (10, [.ref (A (b + 0)), .ref (A (b2 + 0)), .ref lg, .ref lg_o, .ref tx, .ref rz, .ref ro, .int xea, .int xra, .int (rfR cm cs (mkS ty nu wy kd ru so sb sc sh))])) ∧ MW A b cy q cm cs u ∧ hFrL f u [x]) := by
  refine h_enter (by decide) hfl (Nat.le_of_ble_eq_true rfl) ?_
  intro p9 e9 s9 m9 b9 t9 c9 hsz C0 hr hnm G ls hl
  have hx := C0.1.1
  have hb := C0.1.2.1
  have hl : lv_has ls 3 [(0, .ref x), (1, .ref st)] := hl
  refine lv_aload_n hx hb dX8_carryOut_0 rfl (lv_at hl 0 rfl) ?_
  refine g_get C0 G h_x rfl hiX8 0 (by decide) mf_X8_10 rfl dX8_carryOut_1 ?_
  refine lv_aload_n hx hb dX8_carryOut_4 rfl (lv_at hl 1 rfl) ?_
  have k11 : f (A (b + 0)) = some (.inr (4, [.ref (A (b + 1)), .int (cm 0), .int (cm 1), .int (cm 2), .int (cm 3), .int (cm 4)])) := hM 0 (by omega)
  refine g_cI C0 G (g_runV C0 G (rest := []) (u_X2_refusalU hfl hM (S := (mkS ty nu wy kd ru so sb sc sh)) (show _ = some (scell (mkS ty nu wy kd ru so sb sc sh)) from h_st) hAj hQ hPX) k11 rfl hY_X2_refusal mm_X8_128 mi_X2_refusal ml_X2_refusal ⟨(Nat.le_of_ble_eq_true rfl), (Nat.le_of_ble_eq_true rfl)⟩ rfl hl.1 rfl (Nat.le_of_ble_eq_true rfl) dX8_carryOut_5 ⟨(Nat.le_of_ble_eq_true rfl), (Nat.le_of_ble_eq_true rfl)⟩) (kx_no rfl) (fun r14 u13 H locs hp12 G => ?_)
  obtain ⟨er15, eu13⟩ := hp12
  rw [eu13] at G
  refine lv_topv (v := (rfR cm cs (mkS ty nu wy kd ru so sb sc sh))) er15 ?_
  refine lv_istore_n (lv' := [(2, .int (rfR cm cs (mkS ty nu wy kd ru so sb sc sh))), (0, .ref x), (1, .ref st)]) hx hb dX8_carryOut_8 rfl hl (by decide) rfl (fun ls hl => ?_)
  refine lv_iload_n hx hb dX8_carryOut_9 rfl (lv_at hl 0 rfl) ?_
  refine lv_if_eq (tgt := 28) hx hb dX8_carryOut_10 (by decide) (fun c16 => absurd c16 (hR)) (fun _ => ?_)
  refine lv_aload_n hx hb dX8_carryOut_13 rfl (lv_at hl 1 rfl) ?_
  refine lv_iload_n hx hb dX8_carryOut_14 rfl (lv_at hl 0 rfl) ?_
  refine g_put C0 G h_x rfl hiX8 tyX8 tyX8_ok nmX8 9 (by decide) mf_X8_53 rfl rfl rfl rfl (Nat.le_of_ble_eq_true rfl) dX8_carryOut_15 (fun H locs f17 hf17 G => ?_)
  have k18 : f17 x = some (.inr (10, [.ref (A (b + 0)), .ref (A (b2 + 0)), .ref lg, .ref lg_o, .ref tx, .ref rz, .ref ro, .int xea, .int xra, .int (rfR cm cs (mkS ty nu wy kd ru so sb sc sh))])) := hus hf17
  have hM19 := MW_frN hM (put_fr hf17) (fun y9 hy9 => by simp only [List.mem_cons, List.not_mem_nil, or_false] at hy9; rw [hy9]; exact (MW_kind hM h_x (by decide)))
  exact g_throw C0 G (X := "java/lang/IllegalStateException") (by decide) mk_X8_131 mz_java_lang_IllegalStateException (is := 133) (text := "the match refuses this") (by decide) hat_135 hl.1 dX8_carryOut_18 dX8_carryOut_21 dX8_carryOut_22 dX8_carryOut_24 dX8_carryOut_27 ⟨(Nat.le_of_ble_eq_true rfl), (Nat.le_of_ble_eq_true rfl)⟩ ⟨(Nat.le_of_ble_eq_true rfl), (Nat.le_of_ble_eq_true rfl)⟩ (Nat.le_of_ble_eq_true rfl) (Nat.le_of_ble_eq_true rfl) (by exact ⟨rfl, k18, hM19, (fun a9 e9 h7 h8 => hup hf17 (fun q => h7 (by rw [q]; simp)) (h8))⟩)
def X8_carryOutA_r0 (ty : Int32) (nu : Int32) (wy : Int32) (kd : Int32) (ru : Int32) (so : Int32) (sb : Int32) (sc : Int32) (sh : Int32) (cm : Nat → Int32) (cs : Nat → Nat → Nat → Int32) : Int32 := (pfR cm cs (mkS ty nu wy kd ru so sb sc sh))
def X8_carryOutA_g1 (nS : Nat) (nC : Nat) (ge : Nat → Int32) : Nat → Int32 := (X1_endCommand_g0 (nI (nS + 1)) nC ge)
set_option maxRecDepth 100000 in
theorem c_X8_carryOutA {l : Launch} (hfl : l.stackTraces = false) {D : va_G} {cy : Nat → ClassId} {f : Hf} {sz : Nat} {x : Nat} {lg : Nat} {sa : Nat} {ea : Nat} {st : Nat} {A : Nat → Nat} {b : Nat} {b2 : Nat} {lg_o : Nat} {tx : Nat} {rz : Nat} {ro : Nat} {xea : Int32} {xra : Int32} {xkr : Int32} {no : Nat} {lo : Int32} {le : Int32} {lfi : Int32} {nS : Nat} {nC : Nat} {lun : Int32} {qs : Nat → Option Nat} {ge : Nat → Int32} {ty : Int32} {nu : Int32} {wy : Int32} {kd : Int32} {ru : Int32} {so : Int32} {sb : Int32} {sc : Int32} {sh : Int32} {q : Nat → Option Nat} {cm : Nat → Int32} {cs : Nat → Nat → Nat → Int32} (h_x : f x = some (.inr (10, [.ref (A (b + 0)), .ref (A (b2 + 0)), .ref lg, .ref lg_o, .ref tx, .ref rz, .ref ro, .int xea, .int xra, .int xkr]))) (h_lg : f lg = some (.inr (3, [.ref no, .ref sa, .ref ea, .int lo, .int le, .int lfi, .int (nI nS), .int (nI nC), .int lun]))) (h_sa : f sa = some (.inl (cy 4, 512, .inr (.inr (.inr (.inr qs)))))) (h_ea : f ea = some (.inl (cy 0, 512, .inl ge))) (h_st : f st = some (.inr (7, [.int ty, .int nu, .int wy, .int kd, .int ru, .int so, .int sb, .int sc, .int sh]))) (hAj : ∀ i j : Nat, i ≠ j → A i ≠ A j) (hM : MW A b cy q cm cs f) (hQ : HQ A b q) (n_sa : sa ∉ MA A b) (n_ea : ea ∉ MA A b) (hPX : cm 0 = 0 ∨ PP cm cs) (hPP : PP cm cs) (hR : rfR cm cs (mkS ty nu wy kd ru so sb sc sh) = 0) (hnS : nS < 512) (hnC : nC < 512) (hro : X1_hasRoom_x1 nS nC 1 = 1) : hMet l yX8_carryOut cX8_carryOut 3 (some .int) { frames := 5, cells := 0, slots := 0, locals := 116 } D (hTy cy) f sz [.ref x, .ref st] (hQi (fun r u => r = (X8_carryOutA_r0 ty nu wy kd ru so sb sc sh cm cs) ∧ u sa = some (.inl (cy 4, 512, .inr (.inr (.inr (.inr (va_up qs nS (some st))))))) ∧ u lg = some (.inr (3, [.ref no, .ref sa, .ref ea, .int lo, .int le, .int lfi, .int (nI (nS + 1)), .int (nI (nC + 1)), .int ((if 7 < lun then 7 else lun) + 1)])) ∧ u ea = some (.inl (cy 0, 512, .inl (X8_carryOutA_g1 nS nC ge))) ∧ MW A b cy q (pfM cm cs (mkS ty nu wy kd ru so sb sc sh)) (pfS cm cs (mkS ty nu wy kd ru so sb sc sh)) u ∧ hFrL f u (MA A b ++ [sa, lg, ea])) D f sz) hNo := by
  refine h_enter (by decide) hfl (Nat.le_of_ble_eq_true rfl) ?_
  intro p9 e9 s9 m9 b9 t9 c9 hsz C0 hr hnm G ls hl
  have hx := C0.1.1
  have hb := C0.1.2.1
  have hl : lv_has ls 3 [(0, .ref x), (1, .ref st)] := hl
  refine lv_aload_n hx hb dX8_carryOut_0 rfl (lv_at hl 0 rfl) ?_
  refine g_get C0 G h_x rfl hiX8 0 (by decide) mf_X8_10 rfl dX8_carryOut_1 ?_
  refine lv_aload_n hx hb dX8_carryOut_4 rfl (lv_at hl 1 rfl) ?_
  have k11 : f (A (b + 0)) = some (.inr (4, [.ref (A (b + 1)), .int (cm 0), .int (cm 1), .int (cm 2), .int (cm 3), .int (cm 4)])) := hM 0 (by omega)
  refine g_cI C0 G (g_runV C0 G (rest := []) (u_X2_refusalU hfl hM (S := (mkS ty nu wy kd ru so sb sc sh)) (show _ = some (scell (mkS ty nu wy kd ru so sb sc sh)) from h_st) hAj hQ hPX) k11 rfl hY_X2_refusal mm_X8_128 mi_X2_refusal ml_X2_refusal ⟨(Nat.le_of_ble_eq_true rfl), (Nat.le_of_ble_eq_true rfl)⟩ rfl hl.1 rfl (Nat.le_of_ble_eq_true rfl) dX8_carryOut_5 ⟨(Nat.le_of_ble_eq_true rfl), (Nat.le_of_ble_eq_true rfl)⟩) (kx_no rfl) (fun r14 u13 H locs hp12 G => ?_)
  obtain ⟨er15, eu13⟩ := hp12
  rw [eu13] at G
  refine lv_topv (v := (rfR cm cs (mkS ty nu wy kd ru so sb sc sh))) er15 ?_
  refine lv_istore_n (lv' := [(2, .int (rfR cm cs (mkS ty nu wy kd ru so sb sc sh))), (0, .ref x), (1, .ref st)]) hx hb dX8_carryOut_8 rfl hl (by decide) rfl (fun ls hl => ?_)
  refine lv_iload_n hx hb dX8_carryOut_9 rfl (lv_at hl 0 rfl) ?_
  refine lv_if_eq (tgt := 28) hx hb dX8_carryOut_10 (by decide) (fun _ => ?_) (fun c16 => absurd (hR) c16)
  refine lv_aload_n hx hb dX8_carryOut_28 rfl (lv_at hl 1 rfl) ?_
  refine g_get C0 G h_x rfl hiX8 2 (by decide) mf_X8_22 rfl dX8_carryOut_29 ?_
  refine lv_iconst (v := 1) hx hb dX8_carryOut_32 (by decide) ?_
  refine g_cI C0 G (g_runV C0 G (rest := []) (c_X1_hasRoom hfl (lo := lo) (le := le) (lfi := lfi) (lun := lun) (nS := nS) (nC := nC) (kk := 1) (qs := qs) (ge := ge) h_lg h_sa h_ea (by omega) (by omega) (by omega)) h_lg rfl hY_X1_hasRoom mm_X8_136 mi_X1_hasRoom ml_X1_hasRoom ⟨(Nat.le_of_ble_eq_true rfl), (Nat.le_of_ble_eq_true rfl)⟩ rfl hl.1 rfl (Nat.le_of_ble_eq_true rfl) dX8_carryOut_33 ⟨(Nat.le_of_ble_eq_true rfl), (Nat.le_of_ble_eq_true rfl)⟩) (kx_no rfl) (fun r19 u18 H locs hp17 G => ?_)
  obtain ⟨er20, eu18⟩ := hp17
  rw [eu18] at G
  refine lv_topv (v := (X1_hasRoom_x1 nS nC 1)) er20 ?_
  refine lv_topv (v := 1) (hro) ?_
  refine lv_if_ne (tgt := 41) hx hb dX8_carryOut_36 (by decide) (fun _ => ?_) (fun c21 => absurd c21 (by decide))
  refine lv_aload_n hx hb dX8_carryOut_41 rfl (lv_at hl 1 rfl) ?_
  refine g_get C0 G h_x rfl hiX8 2 (by decide) mf_X8_22 rfl dX8_carryOut_42 ?_
  refine lv_aload_n hx hb dX8_carryOut_45 rfl (lv_at hl 2 rfl) ?_
  refine g_cV C0 G (g_runV C0 G (rest := []) (c_X1_add hfl (lo := lo) (le := le) (lfi := lfi) (lcm := nI nC) (lun := lun) (nS := nS) (qs := qs) (ty := ty) (nu := nu) (wy := wy) (kd := kd) (ru := ru) (so := so) (sb := sb) (sc := sc) (sh := sh) h_lg h_sa h_st hnS) h_lg rfl hY_X1_add mm_X8_139 mi_X1_add ml_X1_add ⟨(Nat.le_of_ble_eq_true rfl), (Nat.le_of_ble_eq_true rfl)⟩ rfl hl.1 rfl (Nat.le_of_ble_eq_true rfl) dX8_carryOut_46 ⟨(Nat.le_of_ble_eq_true rfl), (Nat.le_of_ble_eq_true rfl)⟩) (kx_no rfl) (fun u23 H locs hp22 G => ?_)
  obtain ⟨k24, k25, fr26⟩ := hp22
  refine lv_aload_n hx hb dX8_carryOut_49 rfl (lv_at hl 1 rfl) ?_
  have k27 : u23 x = some (.inr (10, [.ref (A (b + 0)), .ref (A (b2 + 0)), .ref lg, .ref lg_o, .ref tx, .ref rz, .ref ro, .int xea, .int xra, .int xkr])) := fr26 _ _ (by simp only [List.mem_cons, List.not_mem_nil, or_false]; intro q; rcases q with q | q; exact (hne h_x h_sa (by intro q; cases q)) q; exact (hne h_x h_lg (by intro q; cases q)) q) h_x
  refine g_get C0 G k27 rfl hiX8 2 (by decide) mf_X8_22 rfl dX8_carryOut_50 ?_
  have k28 : u23 ea = some (.inl (cy 0, 512, .inl ge)) := fr26 _ _ (by simp only [List.mem_cons, List.not_mem_nil, or_false]; intro q; rcases q with q | q; exact (hne h_ea h_sa (by intro q; first | (cases q; done) | (simp at q; done))) q; exact (hne h_ea h_lg (by intro q; cases q)) q) h_ea
  refine g_cV C0 G (g_runV C0 G (rest := []) (c_X1_endCommand hfl (lo := lo) (le := le) (lfi := lfi) (lsc := nI (nS + 1)) (lun := lun) (nC := nC) (ge := ge) k25 k28 hnC) k25 rfl hY_X1_endCommand mm_X8_143 mi_X1_endCommand ml_X1_endCommand ⟨(Nat.le_of_ble_eq_true rfl), (Nat.le_of_ble_eq_true rfl)⟩ rfl hl.1 rfl (Nat.le_of_ble_eq_true rfl) dX8_carryOut_53 ⟨(Nat.le_of_ble_eq_true rfl), (Nat.le_of_ble_eq_true rfl)⟩) (kx_no rfl) (fun u30 H locs hp29 G => ?_)
  obtain ⟨k31, k32, fr33⟩ := hp29
  refine lv_aload_n hx hb dX8_carryOut_56 rfl (lv_at hl 1 rfl) ?_
  have k34 : u30 x = some (.inr (10, [.ref (A (b + 0)), .ref (A (b2 + 0)), .ref lg, .ref lg_o, .ref tx, .ref rz, .ref ro, .int xea, .int xra, .int xkr])) := fr33 _ _ (by simp only [List.mem_cons, List.not_mem_nil, or_false]; intro q; rcases q with q | q; exact (hne k27 k28 (by intro q; cases q)) q; exact (hne k27 k25 (by intro q; cases q)) q) k27
  refine g_get C0 G k34 rfl hiX8 0 (by decide) mf_X8_10 rfl dX8_carryOut_57 ?_
  refine lv_aload_n hx hb dX8_carryOut_60 rfl (lv_at hl 2 rfl) ?_
  have hM35 := MW_frN hM fr26 (fun y9 hy9 => by simp only [List.mem_cons, List.not_mem_nil, or_false] at hy9; rcases hy9 with q9 | q9; (rw [q9]; exact n_sa); (rw [q9]; exact (MW_kind hM h_lg (by decide))))
  have hM36 := MW_frN hM35 fr33 (fun y9 hy9 => by simp only [List.mem_cons, List.not_mem_nil, or_false] at hy9; rcases hy9 with q9 | q9; (rw [q9]; exact n_ea); (rw [q9]; exact (MW_kind hM h_lg (by decide))))
  have k37 : u30 st = some (.inr (7, [.int ty, .int nu, .int wy, .int kd, .int ru, .int so, .int sb, .int sc, .int sh])) := fr33 _ _ (by simp only [List.mem_cons, List.not_mem_nil, or_false]; intro q; rcases q with q | q; exact (hne (fr26 _ _ (by simp only [List.mem_cons, List.not_mem_nil, or_false]; intro q; rcases q with q | q; exact (hne h_st h_sa (by intro q; cases q)) q; exact (hne h_st h_lg (by intro q; cases q)) q) h_st) k28 (by intro q; cases q)) q; exact (hne (fr26 _ _ (by simp only [List.mem_cons, List.not_mem_nil, or_false]; intro q; rcases q with q | q; exact (hne h_st h_sa (by intro q; cases q)) q; exact (hne h_st h_lg (by intro q; cases q)) q) h_st) k25 (by intro q; cases q)) q) (fr26 _ _ (by simp only [List.mem_cons, List.not_mem_nil, or_false]; intro q; rcases q with q | q; exact (hne h_st h_sa (by intro q; cases q)) q; exact (hne h_st h_lg (by intro q; cases q)) q) h_st)
  have k38 : u30 (A (b + 0)) = some (.inr (4, [.ref (A (b + 1)), .int (cm 0), .int (cm 1), .int (cm 2), .int (cm 3), .int (cm 4)])) := fr33 _ _ (by simp only [List.mem_cons, List.not_mem_nil, or_false]; intro q; rcases q with q | q; exact (hne (fr26 _ _ (by simp only [List.mem_cons, List.not_mem_nil, or_false]; intro q; rcases q with q | q; exact (hne k11 h_sa (by intro q; cases q)) q; exact (hne k11 h_lg (by intro q; cases q)) q) k11) k28 (by intro q; cases q)) q; exact (hne (fr26 _ _ (by simp only [List.mem_cons, List.not_mem_nil, or_false]; intro q; rcases q with q | q; exact (hne k11 h_sa (by intro q; cases q)) q; exact (hne k11 h_lg (by intro q; cases q)) q) k11) k25 (by intro q; cases q)) q) (fr26 _ _ (by simp only [List.mem_cons, List.not_mem_nil, or_false]; intro q; rcases q with q | q; exact (hne k11 h_sa (by intro q; cases q)) q; exact (hne k11 h_lg (by intro q; cases q)) q) k11)
  refine g_cI C0 G (g_runV C0 G (rest := []) (u_X2_performU hfl hM36 (S := (mkS ty nu wy kd ru so sb sc sh)) (show _ = some (scell (mkS ty nu wy kd ru so sb sc sh)) from k37) hAj hQ hPP) k38 rfl hY_X2_perform mm_X8_146 mi_X2_perform ml_X2_perform ⟨(Nat.le_of_ble_eq_true rfl), (Nat.le_of_ble_eq_true rfl)⟩ rfl hl.1 rfl (Nat.le_of_ble_eq_true rfl) dX8_carryOut_61 ⟨(Nat.le_of_ble_eq_true rfl), (Nat.le_of_ble_eq_true rfl)⟩) (kx_no rfl) (fun r41 u40 H locs hp39 G => ?_)
  obtain ⟨er42, hM43, fr44⟩ := hp39
  refine lv_topv (v := (pfR cm cs (mkS ty nu wy kd ru so sb sc sh))) er42 ?_
  have k45 : u40 sa = some (.inl (cy 4, 512, .inr (.inr (.inr (.inr (va_up qs nS (some st))))))) := fr44 _ _ n_sa (fr33 _ _ (by simp only [List.mem_cons, List.not_mem_nil, or_false]; intro q; rcases q with q | q; exact (hne k24 k28 (by intro q; first | (cases q; done) | (simp at q; done))) q; exact (hne k24 k25 (by intro q; cases q)) q) k24)
  have k46 : u40 lg = some (.inr (3, [.ref no, .ref sa, .ref ea, .int lo, .int le, .int lfi, .int (nI (nS + 1)), .int (nI (nC + 1)), .int ((if 7 < lun then 7 else lun) + 1)])) := fr44 _ _ (MW_kind hM h_lg (by decide)) k32
  have k47 : u40 ea = some (.inl (cy 0, 512, .inl (X1_endCommand_g0 (nI (nS + 1)) nC ge))) := fr44 _ _ n_ea k31
  exact g_iret C0 G hr dX8_carryOut_64 (Nat.le_of_ble_eq_true rfl) (Nat.le_of_ble_eq_true rfl) (by exact ⟨(by rw [X8_carryOutA_r0]), k45, k46, (by rw [(by rw [X8_carryOutA_g1] : (X8_carryOutA_g1 nS nC ge) = (X1_endCommand_g0 (nI (nS + 1)) nC ge))]; exact k47), hM43, (fun a9 e9 h7 h8 => fr44 _ _ (fun q => h7 (by simp [q])) (fr33 _ _ (fun q => h7 (by simp only [List.mem_cons, List.not_mem_nil, or_false] at q ⊢; first | exact q | (rcases q with q | q <;> simp [q]) | omega)) (fr26 _ _ (fun q => h7 (by simp only [List.mem_cons, List.not_mem_nil, or_false] at q ⊢; first | exact q | (rcases q with q | q <;> simp [q]) | omega)) (h8))))⟩)
