def lgQ (qs : Nat → Option Nat) (sq : Nat → Nat) (nS n : Nat) : Nat → Option Nat := fun k => if nS ≤ k ∧ k < nS + n then some (sq (k - nS)) else qs k
theorem lgQ_0 (qs : Nat → Option Nat) (sq : Nat → Nat) (nS : Nat) : lgQ qs sq nS 0 = qs := by
  funext k; unfold lgQ; rw [if_neg (by omega)]
theorem lgQ_s (qs : Nat → Option Nat) (sq : Nat → Nat) (nS n : Nat) : va_up (lgQ qs sq nS n) (nS + n) (some (sq n)) = lgQ qs sq nS (n + 1) := by
  funext k
  unfold va_up lgQ
  by_cases h : k = nS + n
  · subst h
    rw [if_pos (by omega), if_pos (by omega), Nat.add_sub_cancel_left]
  · rw [if_neg h]
    by_cases h2 : nS ≤ k ∧ k < nS + n
    · rw [if_pos h2, if_pos (by omega)]
    · rw [if_neg h2, if_neg (by omega)]
def X8_carryOutElementsA_g0 (nS : Nat) (nC : Nat) (ge : Nat → Int32) (N : Nat) : Nat → Int32 := (X1_endCommand_g0 (nI (nS + N)) nC ge)
set_option maxRecDepth 100000 in
theorem c_X8_carryOutElementsA {l : Launch} (hfl : l.stackTraces = false) {D : va_G} {cy : Nat → ClassId} {f : Hf} {sz : Nat} {x : Nat} {lg : Nat} {sa : Nat} {ea : Nat} {tx : Nat} {pd : Nat} {A : Nat → Nat} {b : Nat} {b2 : Nat} {lg_o : Nat} {rz : Nat} {ro : Nat} {xea : Int32} {xra : Int32} {xkr : Int32} {no : Nat} {lo : Int32} {le : Int32} {lfi : Int32} {nS : Nat} {nC : Nat} {lun : Int32} {qs : Nat → Option Nat} {ge : Nat → Int32} {bu : Nat} {nt : Nat} {tl : Int32} {N : Nat} {qp : Nat → Option Nat} {q : Nat → Option Nat} {cm : Nat → Int32} {cs : Nat → Nat → Nat → Int32} {sq : Nat → Nat} {SS : Nat → Nat → Int32} (h_x : f x = some (.inr (10, [.ref (A (b + 0)), .ref (A (b2 + 0)), .ref lg, .ref lg_o, .ref tx, .ref rz, .ref ro, .int xea, .int xra, .int xkr]))) (h_lg : f lg = some (.inr (3, [.ref no, .ref sa, .ref ea, .int lo, .int le, .int lfi, .int (nI nS), .int (nI nC), .int lun]))) (h_sa : f sa = some (.inl (cy 4, 512, .inr (.inr (.inr (.inr qs)))))) (h_ea : f ea = some (.inl (cy 0, 512, .inl ge))) (h_tx : f tx = some (.inr (9, [.ref bu, .ref nt, .ref pd, .int tl, .int (nI N)]))) (h_pd : f pd = some (.inl (cy 4, 60, .inr (.inr (.inr (.inr qp)))))) (hAj : ∀ i j : Nat, i ≠ j → A i ≠ A j) (hM : MW A b cy q cm cs f) (hQ : HQ A b q) (n_sa : sa ∉ MA A b) (n_ea : ea ∉ MA A b) (n_pd : pd ∉ MA A b) (hN : N ≤ 60) (hsq : ∀ j : Nat, j < N → qp j = some (sq j) ∧ f (sq j) = some (scell (SS j))) (hpp : ∀ j : Nat, j < N → PP (fl SS cm cs j).1 (fl SS cm cs j).2) (hrf : ∀ j : Nat, j < N → rfR (fl SS cm cs j).1 (fl SS cm cs j).2 (SS j) = 0) (hnS : nS + N ≤ 512) (hnC : nC < 512) : hMet l yX8_carryOutElements cX8_carryOutElements 4 (some .int) { frames := 5, cells := 0, slots := 0, locals := 116 } D (hTy cy) f sz [.ref x] (hQi (fun r u => r = (-1) ∧ u lg = some (.inr (3, [.ref no, .ref sa, .ref ea, .int lo, .int le, .int lfi, .int (nI (nS + N)), .int (nI (nC + 1)), .int ((if 7 < lun then 7 else lun) + 1)])) ∧ u sa = some (.inl (cy 4, 512, .inr (.inr (.inr (.inr (lgQ qs sq nS N)))))) ∧ u ea = some (.inl (cy 0, 512, .inl (X8_carryOutElementsA_g0 nS nC ge N))) ∧ MW A b cy q (fl SS cm cs N).1 (fl SS cm cs N).2 u ∧ hFrL f u (MA A b ++ [lg, sa, ea])) D f sz) hNo := by
  refine h_enter (by decide) hfl (Nat.le_of_ble_eq_true rfl) ?_
  intro p9 e9 s9 m9 b9 t9 c9 hsz C0 hr hnm G ls hl
  have hx := C0.1.1
  have hb := C0.1.2.1
  have hl : lv_has ls 4 [(0, .ref x)] := hl
  refine lv_aload_n hx hb dX8_carryOutElements_0 rfl (lv_at hl 0 rfl) ?_
  refine g_get C0 G h_x rfl hiX8 4 (by decide) mf_X8_32 rfl dX8_carryOutElements_1 ?_
  refine g_cI C0 G (g_runV C0 G (rest := []) (c_X7_elements hfl (tl := tl) (tc := nI N) h_tx) h_tx rfl hY_X7_elements mm_X8_173 mi_X7_elements ml_X7_elements ⟨(Nat.le_of_ble_eq_true rfl), (Nat.le_of_ble_eq_true rfl)⟩ rfl hl.1 rfl (Nat.le_of_ble_eq_true rfl) dX8_carryOutElements_4 ⟨(Nat.le_of_ble_eq_true rfl), (Nat.le_of_ble_eq_true rfl)⟩) (kx_no rfl) (fun r13 u12 H locs hp11 G => ?_)
  obtain ⟨er14, eu12⟩ := hp11
  rw [eu12] at G
  refine lv_topv (v := nI N) er14 ?_
  refine lv_istore_n (lv' := [(1, .int (nI N)), (0, .ref x)]) hx hb dX8_carryOutElements_7 rfl hl (by decide) rfl (fun ls hl => ?_)
  refine lv_iconst (v := 0) hx hb dX8_carryOutElements_8 (by decide) ?_
  refine lv_istore_n (lv' := [(2, .int 0), (1, .int (nI N)), (0, .ref x)]) hx hb dX8_carryOutElements_9 rfl hl (by decide) rfl (fun ls hl => ?_)
  refine W.widen (k := 0) (n := 0) (Nat.le_of_ble_eq_true rfl) (Nat.le_of_ble_eq_true rfl) ?_
  have hM0 : MW A b cy q (fl SS cm cs 0).1 (fl SS cm cs 0).2 f := hM
  have LOOP10 : ∀ (k9 : Nat) (jj : Nat) (f1 : Hf) (H : Heap) (locs : List Loc) (ls : Array Slot), (jj ≤ N) → (N - jj < k9) → MW A b cy q (fl SS cm cs jj).1 (fl SS cm cs jj).2 f1 → hFrL f f1 (MA A b) → hG D (hA f sz) f1 s9 H locs → lv_has ls 4 [(2, .int (nI jj)), (1, .int (nI N)), (0, .ref x)] → W p9 l e9 ({ frames := 5, cells := 0, slots := 0, locals := 116 } : Room) s9 m9 ([.ref x] : List Value).toArray b9 t9 c9 H locs 0 0 (vx_MQ b9 (hQi (fun r u => r = (-1) ∧ u lg = some (.inr (3, [.ref no, .ref sa, .ref ea, .int lo, .int le, .int lfi, .int (nI (nS + N)), .int (nI (nC + 1)), .int ((if 7 < lun then 7 else lun) + 1)])) ∧ u sa = some (.inl (cy 4, 512, .inr (.inr (.inr (.inr (lgQ qs sq nS N)))))) ∧ u ea = some (.inl (cy 0, 512, .inl (X8_carryOutElementsA_g0 nS nC ge N))) ∧ MW A b cy q (fl SS cm cs N).1 (fl SS cm cs N).2 u ∧ hFrL f u (MA A b ++ [lg, sa, ea])) D f sz) (hPx hNo D f sz) ([.ref x] : List Value).toArray s9 0 0 (hA f sz)) (F0 m9 10 ls []) := by
    intro k9
    induction k9 with
    | zero =>
      intro jj f1 H locs ls hi2 hk hMj hfr G hl
      exact absurd hk (by omega)
    | succ k9 ih =>
      intro jj f1 H locs ls hi2 hk hMj hfr G hl
      rcases Nat.lt_or_ge jj N with hlt | hge
      · have hs15 : f (sq jj) = some (.inr (7, [.int (SS jj 0), .int (SS jj 1), .int (SS jj 2), .int (SS jj 3), .int (SS jj 4), .int (SS jj 5), .int (SS jj 6), .int (SS jj 7), .int (SS jj 8)])) := (hsq jj hlt).2
        refine lv_iload_n hx hb dX8_carryOutElements_10 rfl (lv_at hl 0 rfl) ?_
        refine lv_iload_n hx hb dX8_carryOutElements_11 rfl (lv_at hl 1 rfl) ?_
        refine lv_icmp_ge (tgt := 64) hx hb dX8_carryOutElements_12 (by decide) (fun c16 => absurd c16 ((fun q => absurd ((nI_leI (a := N) (b := jj) (by omega) (by omega)).mp q) (by omega)))) (fun _ => ?_)
        refine lv_aload_n hx hb dX8_carryOutElements_15 rfl (lv_at hl 2 rfl) ?_
        have k17 : f1 x = some (.inr (10, [.ref (A (b + 0)), .ref (A (b2 + 0)), .ref lg, .ref lg_o, .ref tx, .ref rz, .ref ro, .int xea, .int xra, .int xkr])) := hfr _ _ (MW_kind hM h_x (by decide)) h_x
        refine g_get C0 G k17 rfl hiX8 0 (by decide) mf_X8_10 rfl dX8_carryOutElements_16 ?_
        refine lv_aload_n hx hb dX8_carryOutElements_19 rfl (lv_at hl 2 rfl) ?_
        refine g_get C0 G k17 rfl hiX8 4 (by decide) mf_X8_32 rfl dX8_carryOutElements_20 ?_
        refine lv_iload_n hx hb dX8_carryOutElements_23 rfl (lv_at hl 0 rfl) ?_
        have k18 : f1 tx = some (.inr (9, [.ref bu, .ref nt, .ref pd, .int tl, .int (nI N)])) := hfr _ _ (MW_kind hM h_tx (by decide)) h_tx
        have k19 : f1 pd = some (.inl (cy 4, 60, .inr (.inr (.inr (.inr qp))))) := hfr _ _ n_pd h_pd
        refine g_cR C0 G (g_runV C0 G (rest := [.ref (A (b + 0))]) (c_X7_element hfl (tl := tl) (tc := nI N) (jj := jj) (qp := qp) k18 k19 (by omega) (hsq jj hlt).1) k18 rfl hY_X7_element mm_X8_181 mi_X7_element ml_X7_element ⟨(Nat.le_of_ble_eq_true rfl), (Nat.le_of_ble_eq_true rfl)⟩ rfl hl.1 rfl (Nat.le_of_ble_eq_true rfl) dX8_carryOutElements_24 ⟨(Nat.le_of_ble_eq_true rfl), (Nat.le_of_ble_eq_true rfl)⟩) (kx_no rfl) (fun a22 u21 H locs hp20 G => ?_)
        obtain ⟨zr, eu21⟩ := hp20
        replace zr := Eq.symm zr
        subst zr
        rw [eu21] at G
        have k23 : f1 (sq jj) = some (.inr (7, [.int (SS jj 0), .int (SS jj 1), .int (SS jj 2), .int (SS jj 3), .int (SS jj 4), .int (SS jj 5), .int (SS jj 6), .int (SS jj 7), .int (SS jj 8)])) := hfr _ _ (MW_kind hM (hsq jj hlt).2 (by decide)) hs15
        have k24 : f1 (A (b + 0)) = some (.inr (4, [.ref (A (b + 1)), .int ((fl SS cm cs jj).1 0), .int ((fl SS cm cs jj).1 1), .int ((fl SS cm cs jj).1 2), .int ((fl SS cm cs jj).1 3), .int ((fl SS cm cs jj).1 4)])) := hMj 0 (by omega)
        refine g_cI C0 G (g_runV C0 G (rest := []) (u_X2_refusalU hfl hMj (S := (SS jj)) (show _ = some (scell (SS jj)) from k23) hAj hQ (Or.inr (hpp jj hlt))) k24 rfl hY_X2_refusal mm_X8_128 mi_X2_refusal ml_X2_refusal ⟨(Nat.le_of_ble_eq_true rfl), (Nat.le_of_ble_eq_true rfl)⟩ rfl hl.1 rfl (Nat.le_of_ble_eq_true rfl) dX8_carryOutElements_27 ⟨(Nat.le_of_ble_eq_true rfl), (Nat.le_of_ble_eq_true rfl)⟩) (kx_no rfl) (fun r27 u26 H locs hp25 G => ?_)
        obtain ⟨er28, eu26⟩ := hp25
        rw [eu26] at G
        refine lv_topv (v := (rfR (fl SS cm cs jj).1 (fl SS cm cs jj).2 (SS jj))) er28 ?_
        refine lv_istore_n (lv' := [(3, .int (rfR (fl SS cm cs jj).1 (fl SS cm cs jj).2 (SS jj))), (2, .int (nI jj)), (1, .int (nI N)), (0, .ref x)]) hx hb dX8_carryOutElements_30 rfl hl (by decide) rfl (fun ls hl => ?_)
        refine lv_iload_n hx hb dX8_carryOutElements_31 rfl (lv_at hl 0 rfl) ?_
        refine lv_if_eq (tgt := 42) hx hb dX8_carryOutElements_32 (by decide) (fun _ => ?_) (fun c29 => absurd ((hrf jj hlt)) c29)
        refine lv_aload_n hx hb dX8_carryOutElements_42 rfl (lv_at hl 3 rfl) ?_
        refine g_get C0 G k17 rfl hiX8 0 (by decide) mf_X8_10 rfl dX8_carryOutElements_43 ?_
        refine lv_aload_n hx hb dX8_carryOutElements_46 rfl (lv_at hl 3 rfl) ?_
        refine g_get C0 G k17 rfl hiX8 4 (by decide) mf_X8_32 rfl dX8_carryOutElements_47 ?_
        refine lv_iload_n hx hb dX8_carryOutElements_50 rfl (lv_at hl 1 rfl) ?_
        refine g_cR C0 G (g_runV C0 G (rest := [.ref (A (b + 0))]) (c_X7_element hfl (tl := tl) (tc := nI N) (jj := jj) (qp := qp) k18 k19 (by omega) (hsq jj hlt).1) k18 rfl hY_X7_element mm_X8_181 mi_X7_element ml_X7_element ⟨(Nat.le_of_ble_eq_true rfl), (Nat.le_of_ble_eq_true rfl)⟩ rfl hl.1 rfl (Nat.le_of_ble_eq_true rfl) dX8_carryOutElements_51 ⟨(Nat.le_of_ble_eq_true rfl), (Nat.le_of_ble_eq_true rfl)⟩) (kx_no rfl) (fun a32 u31 H locs hp30 G => ?_)
        obtain ⟨zr, eu31⟩ := hp30
        replace zr := Eq.symm zr
        subst zr
        rw [eu31] at G
        refine g_cI C0 G (g_runV C0 G (rest := []) (u_X2_performU hfl hMj (S := (SS jj)) (show _ = some (scell (SS jj)) from k23) hAj hQ (hpp jj hlt)) k24 rfl hY_X2_perform mm_X8_146 mi_X2_perform ml_X2_perform ⟨(Nat.le_of_ble_eq_true rfl), (Nat.le_of_ble_eq_true rfl)⟩ rfl hl.1 rfl (Nat.le_of_ble_eq_true rfl) dX8_carryOutElements_54 ⟨(Nat.le_of_ble_eq_true rfl), (Nat.le_of_ble_eq_true rfl)⟩) (kx_no rfl) (fun r35 u34 H locs hp33 G => ?_)
        obtain ⟨er36, hM37, fr38⟩ := hp33
        refine lv_topv (v := (pfR (fl SS cm cs jj).1 (fl SS cm cs jj).2 (SS jj))) er36 ?_
        refine lv_pop hx hb dX8_carryOutElements_57 rfl ?_
        refine lv_iinc (v := nI (jj + 1)) (lv' := [(2, .int (nI (jj + 1))), (3, .int (rfR (fl SS cm cs jj).1 (fl SS cm cs jj).2 (SS jj))), (1, .int (nI N)), (0, .ref x)]) hx hb dX8_carryOutElements_58 hl (k := 1) rfl (by exact (nI_add _ _)) (by decide) rfl (fun ls hl => ?_)
        refine lv_goto (tgt := 10) hx hb dX8_carryOutElements_61 (by decide) ?_
        exact ih (jj + 1) u34 _ _ _ (by omega) (by omega) hM37 (fun a9 e9 h7 h8 => fr38 _ _ (fun q => h7 q) (hfr _ _ (fun q => h7 q) (h8))) G (lv_sub hl [0, 2, 3] rfl)
      · have hi9 : N = jj := by omega
        subst hi9
        refine lv_iload_n hx hb dX8_carryOutElements_10 rfl (lv_at hl 0 rfl) ?_
        refine lv_iload_n hx hb dX8_carryOutElements_11 rfl (lv_at hl 1 rfl) ?_
        refine lv_icmp_ge (tgt := 64) hx hb dX8_carryOutElements_12 (by decide) (fun _ => ?_) (fun c40 => absurd (((nI_leI (by omega) (by omega)).mpr (Nat.le_refl _))) c40)
        refine lv_iconst (v := 0) hx hb dX8_carryOutElements_64 (by decide) ?_
        refine lv_istore_n (lv' := [(2, .int 0), (1, .int (nI N)), (0, .ref x)]) hx hb dX8_carryOutElements_65 rfl hl (by decide) rfl (fun ls hl => ?_)
        have k41 : f1 lg = some (.inr (3, [.ref no, .ref sa, .ref ea, .int lo, .int le, .int lfi, .int (nI nS), .int (nI nC), .int lun])) := hfr _ _ (MW_kind hM h_lg (by decide)) h_lg
        have k42 : f1 sa = some (.inl (cy 4, 512, .inr (.inr (.inr (.inr qs))))) := hfr _ _ n_sa h_sa
        refine W.widen (k := 0) (n := 0) (Nat.le_of_ble_eq_true rfl) (Nat.le_of_ble_eq_true rfl) ?_
        have LOOP66 : ∀ (k2 : Nat) (jj : Nat) (f12 : Hf) (H : Heap) (locs : List Loc) (ls : Array Slot), (jj ≤ N) → (N - jj < k2) → f12 lg = some (.inr (3, [.ref no, .ref sa, .ref ea, .int lo, .int le, .int lfi, .int (nI (nS + jj)), .int (nI nC), .int lun])) → f12 sa = some (.inl (cy 4, 512, .inr (.inr (.inr (.inr (lgQ qs sq nS jj)))))) → hFrL f1 f12 [lg, sa] → hG D (hA f sz) f12 s9 H locs → lv_has ls 4 [(2, .int (nI jj)), (1, .int (nI N)), (0, .ref x)] → W p9 l e9 ({ frames := 5, cells := 0, slots := 0, locals := 116 } : Room) s9 m9 ([.ref x] : List Value).toArray b9 t9 c9 H locs 0 0 (vx_MQ b9 (hQi (fun r u => r = (-1) ∧ u lg = some (.inr (3, [.ref no, .ref sa, .ref ea, .int lo, .int le, .int lfi, .int (nI (nS + N)), .int (nI (nC + 1)), .int ((if 7 < lun then 7 else lun) + 1)])) ∧ u sa = some (.inl (cy 4, 512, .inr (.inr (.inr (.inr (lgQ qs sq nS N)))))) ∧ u ea = some (.inl (cy 0, 512, .inl (X8_carryOutElementsA_g0 nS nC ge N))) ∧ MW A b cy q (fl SS cm cs N).1 (fl SS cm cs N).2 u ∧ hFrL f u (MA A b ++ [lg, sa, ea])) D f sz) (hPx hNo D f sz) ([.ref x] : List Value).toArray s9 0 0 (hA f sz)) (F0 m9 66 ls []) := by
          intro k2
          induction k2 with
          | zero =>
            intro jj f12 H locs ls hi22 hk2 h_lg12 h_sa12 hfr2 G hl
            exact absurd hk2 (by omega)
          | succ k2 ih2 =>
            intro jj f12 H locs ls hi22 hk2 h_lg12 h_sa12 hfr2 G hl
            rcases Nat.lt_or_ge jj N with hlt2 | hge2
            · have hs43 : f (sq jj) = some (.inr (7, [.int (SS jj 0), .int (SS jj 1), .int (SS jj 2), .int (SS jj 3), .int (SS jj 4), .int (SS jj 5), .int (SS jj 6), .int (SS jj 7), .int (SS jj 8)])) := (hsq jj hlt2).2
              refine lv_iload_n hx hb dX8_carryOutElements_66 rfl (lv_at hl 0 rfl) ?_
              refine lv_iload_n hx hb dX8_carryOutElements_67 rfl (lv_at hl 1 rfl) ?_
              refine lv_icmp_ge (tgt := 92) hx hb dX8_carryOutElements_68 (by decide) (fun c44 => absurd c44 ((fun q => absurd ((nI_leI (a := N) (b := jj) (by omega) (by omega)).mp q) (by omega)))) (fun _ => ?_)
              refine lv_aload_n hx hb dX8_carryOutElements_71 rfl (lv_at hl 2 rfl) ?_
              have k45 : f12 x = some (.inr (10, [.ref (A (b + 0)), .ref (A (b2 + 0)), .ref lg, .ref lg_o, .ref tx, .ref rz, .ref ro, .int xea, .int xra, .int xkr])) := hfr2 _ _ (by simp only [List.mem_cons, List.not_mem_nil, or_false]; intro q; rcases q with q | q; exact (hne (hfr _ _ (MW_kind hM h_x (by decide)) h_x) k41 (by intro q; cases q)) q; exact (hne (hfr _ _ (MW_kind hM h_x (by decide)) h_x) k42 (by intro q; cases q)) q) (hfr _ _ (MW_kind hM h_x (by decide)) h_x)
              refine g_get C0 G k45 rfl hiX8 2 (by decide) mf_X8_22 rfl dX8_carryOutElements_72 ?_
              refine lv_aload_n hx hb dX8_carryOutElements_75 rfl (lv_at hl 2 rfl) ?_
              refine g_get C0 G k45 rfl hiX8 4 (by decide) mf_X8_32 rfl dX8_carryOutElements_76 ?_
              refine lv_iload_n hx hb dX8_carryOutElements_79 rfl (lv_at hl 0 rfl) ?_
              have k46 : f12 tx = some (.inr (9, [.ref bu, .ref nt, .ref pd, .int tl, .int (nI N)])) := hfr2 _ _ (by simp only [List.mem_cons, List.not_mem_nil, or_false]; intro q; rcases q with q | q; exact (hne (hfr _ _ (MW_kind hM h_tx (by decide)) h_tx) k41 (by intro q; cases q)) q; exact (hne (hfr _ _ (MW_kind hM h_tx (by decide)) h_tx) k42 (by intro q; cases q)) q) (hfr _ _ (MW_kind hM h_tx (by decide)) h_tx)
              have k47 : f12 pd = some (.inl (cy 4, 60, .inr (.inr (.inr (.inr qp))))) := hfr2 _ _ (by simp only [List.mem_cons, List.not_mem_nil, or_false]; intro q; rcases q with q | q; exact (hne (hfr _ _ n_pd h_pd) k41 (by intro q; cases q)) q; exact (hne (hfr _ _ n_pd h_pd) k42 (by intro q; cases q)) q) (hfr _ _ n_pd h_pd)
              refine g_cR C0 G (g_runV C0 G (rest := [.ref lg]) (c_X7_element hfl (tl := tl) (tc := nI N) (jj := jj) (qp := qp) k46 k47 (by omega) (hsq jj hlt2).1) k46 rfl hY_X7_element mm_X8_181 mi_X7_element ml_X7_element ⟨(Nat.le_of_ble_eq_true rfl), (Nat.le_of_ble_eq_true rfl)⟩ rfl hl.1 rfl (Nat.le_of_ble_eq_true rfl) dX8_carryOutElements_80 ⟨(Nat.le_of_ble_eq_true rfl), (Nat.le_of_ble_eq_true rfl)⟩) (kx_no rfl) (fun a50 u49 H locs hp48 G => ?_)
              obtain ⟨zr, eu49⟩ := hp48
              replace zr := Eq.symm zr
              subst zr
              rw [eu49] at G
              have k51 : f12 (sq jj) = some (.inr (7, [.int (SS jj 0), .int (SS jj 1), .int (SS jj 2), .int (SS jj 3), .int (SS jj 4), .int (SS jj 5), .int (SS jj 6), .int (SS jj 7), .int (SS jj 8)])) := hfr2 _ _ (by simp only [List.mem_cons, List.not_mem_nil, or_false]; intro q; rcases q with q | q; exact (hne (hfr _ _ (MW_kind hM (hsq jj hlt2).2 (by decide)) hs43) k41 (by intro q; cases q)) q; exact (hne (hfr _ _ (MW_kind hM (hsq jj hlt2).2 (by decide)) hs43) k42 (by intro q; cases q)) q) (hfr _ _ (MW_kind hM (hsq jj hlt2).2 (by decide)) hs43)
              refine g_cV C0 G (g_runV C0 G (rest := []) (c_X1_add hfl (lo := lo) (le := le) (lfi := lfi) (lcm := nI nC) (lun := lun) (nS := (nS + jj)) (qs := lgQ qs sq nS jj) (ty := (SS jj 0)) (nu := (SS jj 1)) (wy := (SS jj 2)) (kd := (SS jj 3)) (ru := (SS jj 4)) (so := (SS jj 5)) (sb := (SS jj 6)) (sc := (SS jj 7)) (sh := (SS jj 8)) h_lg12 h_sa12 k51 (by omega)) h_lg12 rfl hY_X1_add mm_X8_139 mi_X1_add ml_X1_add ⟨(Nat.le_of_ble_eq_true rfl), (Nat.le_of_ble_eq_true rfl)⟩ rfl hl.1 rfl (Nat.le_of_ble_eq_true rfl) dX8_carryOutElements_83 ⟨(Nat.le_of_ble_eq_true rfl), (Nat.le_of_ble_eq_true rfl)⟩) (kx_no rfl) (fun u53 H locs hp52 G => ?_)
              obtain ⟨k54, k55, fr56⟩ := hp52
              refine lv_iinc (v := nI (jj + 1)) (lv' := [(2, .int (nI (jj + 1))), (1, .int (nI N)), (0, .ref x)]) hx hb dX8_carryOutElements_86 hl (k := 0) rfl (by exact (nI_add _ _)) (by decide) rfl (fun ls hl => ?_)
              refine lv_goto (tgt := 66) hx hb dX8_carryOutElements_89 (by decide) ?_
              exact ih2 (jj + 1) u53 _ _ _ (by omega) (by omega) (by have h9 := k55; exact h9) (by have h9 := k54; rw [lgQ_s] at h9; exact h9) (fun a9 e9 h7 h8 => fr56 _ _ (fun q => h7 (by simp only [List.mem_cons, List.not_mem_nil, or_false] at q ⊢; first | exact q | (rcases q with q | q <;> simp [q]) | omega)) (hfr2 _ _ (fun q => h7 (by simp only [List.mem_cons, List.not_mem_nil, or_false] at q ⊢; first | exact q | (rcases q with q | q <;> simp [q]) | omega)) (h8))) G (lv_sub hl [0, 1, 2] rfl)
            · have hi9 : N = jj := by omega
              subst hi9
              refine lv_iload_n hx hb dX8_carryOutElements_66 rfl (lv_at hl 0 rfl) ?_
              refine lv_iload_n hx hb dX8_carryOutElements_67 rfl (lv_at hl 1 rfl) ?_
              refine lv_icmp_ge (tgt := 92) hx hb dX8_carryOutElements_68 (by decide) (fun _ => ?_) (fun c58 => absurd (((nI_leI (by omega) (by omega)).mpr (Nat.le_refl _))) c58)
              refine lv_aload_n hx hb dX8_carryOutElements_92 rfl (lv_at hl 2 rfl) ?_
              have k59 : f12 x = some (.inr (10, [.ref (A (b + 0)), .ref (A (b2 + 0)), .ref lg, .ref lg_o, .ref tx, .ref rz, .ref ro, .int xea, .int xra, .int xkr])) := hfr2 _ _ (by simp only [List.mem_cons, List.not_mem_nil, or_false]; intro q; rcases q with q | q; exact (hne (hfr _ _ (MW_kind hM h_x (by decide)) h_x) k41 (by intro q; cases q)) q; exact (hne (hfr _ _ (MW_kind hM h_x (by decide)) h_x) k42 (by intro q; cases q)) q) (hfr _ _ (MW_kind hM h_x (by decide)) h_x)
              refine g_get C0 G k59 rfl hiX8 2 (by decide) mf_X8_22 rfl dX8_carryOutElements_93 ?_
              have k60 : f12 ea = some (.inl (cy 0, 512, .inl ge)) := hfr2 _ _ (by simp only [List.mem_cons, List.not_mem_nil, or_false]; intro q; rcases q with q | q; exact (hne (hfr _ _ n_ea h_ea) k41 (by intro q; cases q)) q; exact (hne (hfr _ _ n_ea h_ea) k42 (by intro q; first | (cases q; done) | (simp at q; done))) q) (hfr _ _ n_ea h_ea)
              refine g_cV C0 G (g_runV C0 G (rest := []) (c_X1_endCommand hfl (lo := lo) (le := le) (lfi := lfi) (lsc := nI (nS + N)) (lun := lun) (nC := nC) (ge := ge) h_lg12 k60 hnC) h_lg12 rfl hY_X1_endCommand mm_X8_143 mi_X1_endCommand ml_X1_endCommand ⟨(Nat.le_of_ble_eq_true rfl), (Nat.le_of_ble_eq_true rfl)⟩ rfl hl.1 rfl (Nat.le_of_ble_eq_true rfl) dX8_carryOutElements_96 ⟨(Nat.le_of_ble_eq_true rfl), (Nat.le_of_ble_eq_true rfl)⟩) (kx_no rfl) (fun u62 H locs hp61 G => ?_)
              obtain ⟨k63, k64, fr65⟩ := hp61
              refine lv_iconst (v := (-1)) hx hb dX8_carryOutElements_99 (by decide) ?_
              have hM66 := MW_frN hMj hfr2 (fun y9 hy9 => by simp only [List.mem_cons, List.not_mem_nil, or_false] at hy9; rcases hy9 with q9 | q9; (rw [q9]; exact (MW_kind hM h_lg (by decide))); (rw [q9]; exact n_sa))
              have hM67 := MW_frN hM66 fr65 (fun y9 hy9 => by simp only [List.mem_cons, List.not_mem_nil, or_false] at hy9; rcases hy9 with q9 | q9; (rw [q9]; exact n_ea); (rw [q9]; exact (MW_kind hM h_lg (by decide))))
              have k68 : u62 sa = some (.inl (cy 4, 512, .inr (.inr (.inr (.inr (lgQ qs sq nS N)))))) := fr65 _ _ (by simp only [List.mem_cons, List.not_mem_nil, or_false]; intro q; rcases q with q | q; exact (hne h_sa12 k60 (by intro q; first | (cases q; done) | (simp at q; done))) q; exact (hne h_sa12 h_lg12 (by intro q; cases q)) q) h_sa12
              exact g_iret C0 G hr dX8_carryOutElements_100 (Nat.le_of_ble_eq_true rfl) (Nat.le_of_ble_eq_true rfl) (by exact ⟨rfl, k64, k68, (by rw [(by rw [X8_carryOutElementsA_g0] : (X8_carryOutElementsA_g0 nS nC ge N) = (X1_endCommand_g0 (nI (nS + N)) nC ge))]; exact k63), hM67, (fun a9 e9 h7 h8 => fr65 _ _ (fun q => h7 (by simp only [List.mem_cons, List.not_mem_nil, or_false] at q ⊢; first | exact q | (rcases q with q | q <;> simp [q]) | omega)) (hfr2 _ _ (fun q => h7 (by simp only [List.mem_cons, List.not_mem_nil, or_false] at q ⊢; first | exact q | (rcases q with q | q <;> simp [q]) | omega)) (hfr _ _ (fun q => h7 (by simp [q])) (h8))))⟩)
        exact LOOP66 (N + 1) 0 f1 _ _ _ (by omega) (by omega)  (by rw [Nat.add_zero]; exact k41) (by rw [lgQ_0]; exact k42) (fun a9 e9 h7 h8 => h8) G (lv_sub hl [0, 1, 2] rfl)
  exact LOOP10 (N + 1) 0 f _ _ _ (by omega) (by omega) hM0 (fun a9 e9 h7 h8 => h8) G (lv_sub hl [0, 1, 2] rfl)
def X8_carryOutElementsR_r0 (rj : Nat) : Int32 := nI rj
set_option maxRecDepth 100000 in
theorem c_X8_carryOutElementsR {l : Launch} (hfl : l.stackTraces = false) {D : va_G} {cy : Nat → ClassId} {f : Hf} {sz : Nat} {x : Nat} {tx : Nat} {pd : Nat} {A : Nat → Nat} {b : Nat} {b2 : Nat} {lg : Nat} {lg_o : Nat} {rz : Nat} {ro : Nat} {xea : Int32} {xra : Int32} {xkr : Int32} {bu : Nat} {nt : Nat} {tl : Int32} {N : Nat} {qp : Nat → Option Nat} {q : Nat → Option Nat} {cm : Nat → Int32} {cs : Nat → Nat → Nat → Int32} {sq : Nat → Nat} {SS : Nat → Nat → Int32} {rj : Nat} (h_x : f x = some (.inr (10, [.ref (A (b + 0)), .ref (A (b2 + 0)), .ref lg, .ref lg_o, .ref tx, .ref rz, .ref ro, .int xea, .int xra, .int xkr]))) (h_tx : f tx = some (.inr (9, [.ref bu, .ref nt, .ref pd, .int tl, .int (nI N)]))) (h_pd : f pd = some (.inl (cy 4, 60, .inr (.inr (.inr (.inr qp)))))) (hAj : ∀ i j : Nat, i ≠ j → A i ≠ A j) (hM : MW A b cy q cm cs f) (hQ : HQ A b q) (n_pd : pd ∉ MA A b) (hN : N ≤ 60) (hsq : ∀ j : Nat, j < N → qp j = some (sq j) ∧ f (sq j) = some (scell (SS j))) (hrN : rj < N) (hpp : ∀ j : Nat, j < rj → PP (fl SS cm cs j).1 (fl SS cm cs j).2) (hrf : ∀ j : Nat, j < rj → rfR (fl SS cm cs j).1 (fl SS cm cs j).2 (SS j) = 0) (hPX : (fl SS cm cs rj).1 0 = 0 ∨ PP (fl SS cm cs rj).1 (fl SS cm cs rj).2) (hR : ¬ rfR (fl SS cm cs rj).1 (fl SS cm cs rj).2 (SS rj) = 0) : hMet l yX8_carryOutElements cX8_carryOutElements 4 (some .int) { frames := 5, cells := 0, slots := 0, locals := 116 } D (hTy cy) f sz [.ref x] (hQi (fun r u => r = (X8_carryOutElementsR_r0 rj) ∧ u x = some (.inr (10, [.ref (A (b + 0)), .ref (A (b2 + 0)), .ref lg, .ref lg_o, .ref tx, .ref rz, .ref ro, .int xea, .int xra, .int (rfR (fl SS cm cs rj).1 (fl SS cm cs rj).2 (SS rj))])) ∧ MW A b cy q (fl SS cm cs rj).1 (fl SS cm cs rj).2 u ∧ hFrL f u (MA A b ++ [x])) D f sz) hNo := by
  refine h_enter (by decide) hfl (Nat.le_of_ble_eq_true rfl) ?_
  intro p9 e9 s9 m9 b9 t9 c9 hsz C0 hr hnm G ls hl
  have hx := C0.1.1
  have hb := C0.1.2.1
  have hl : lv_has ls 4 [(0, .ref x)] := hl
  refine lv_aload_n hx hb dX8_carryOutElements_0 rfl (lv_at hl 0 rfl) ?_
  refine g_get C0 G h_x rfl hiX8 4 (by decide) mf_X8_32 rfl dX8_carryOutElements_1 ?_
  refine g_cI C0 G (g_runV C0 G (rest := []) (c_X7_elements hfl (tl := tl) (tc := nI N) h_tx) h_tx rfl hY_X7_elements mm_X8_173 mi_X7_elements ml_X7_elements ⟨(Nat.le_of_ble_eq_true rfl), (Nat.le_of_ble_eq_true rfl)⟩ rfl hl.1 rfl (Nat.le_of_ble_eq_true rfl) dX8_carryOutElements_4 ⟨(Nat.le_of_ble_eq_true rfl), (Nat.le_of_ble_eq_true rfl)⟩) (kx_no rfl) (fun r13 u12 H locs hp11 G => ?_)
  obtain ⟨er14, eu12⟩ := hp11
  rw [eu12] at G
  refine lv_topv (v := nI N) er14 ?_
  refine lv_istore_n (lv' := [(1, .int (nI N)), (0, .ref x)]) hx hb dX8_carryOutElements_7 rfl hl (by decide) rfl (fun ls hl => ?_)
  refine lv_iconst (v := 0) hx hb dX8_carryOutElements_8 (by decide) ?_
  refine lv_istore_n (lv' := [(2, .int 0), (1, .int (nI N)), (0, .ref x)]) hx hb dX8_carryOutElements_9 rfl hl (by decide) rfl (fun ls hl => ?_)
  refine W.widen (k := 0) (n := 0) (Nat.le_of_ble_eq_true rfl) (Nat.le_of_ble_eq_true rfl) ?_
  have hM0 : MW A b cy q (fl SS cm cs 0).1 (fl SS cm cs 0).2 f := hM
  have LOOP10 : ∀ (k9 : Nat) (jj : Nat) (f1 : Hf) (H : Heap) (locs : List Loc) (ls : Array Slot), (jj ≤ rj) → (rj - jj < k9) → MW A b cy q (fl SS cm cs jj).1 (fl SS cm cs jj).2 f1 → hFrL f f1 (MA A b) → hG D (hA f sz) f1 s9 H locs → lv_has ls 4 [(2, .int (nI jj)), (1, .int (nI N)), (0, .ref x)] → W p9 l e9 ({ frames := 5, cells := 0, slots := 0, locals := 116 } : Room) s9 m9 ([.ref x] : List Value).toArray b9 t9 c9 H locs 0 0 (vx_MQ b9 (hQi (fun r u => r = (X8_carryOutElementsR_r0 rj) ∧ u x = some (.inr (10, [.ref (A (b + 0)), .ref (A (b2 + 0)), .ref lg, .ref lg_o, .ref tx, .ref rz, .ref ro, .int xea, .int xra, .int (rfR (fl SS cm cs rj).1 (fl SS cm cs rj).2 (SS rj))])) ∧ MW A b cy q (fl SS cm cs rj).1 (fl SS cm cs rj).2 u ∧ hFrL f u (MA A b ++ [x])) D f sz) (hPx hNo D f sz) ([.ref x] : List Value).toArray s9 0 0 (hA f sz)) (F0 m9 10 ls []) := by
    intro k9
    induction k9 with
    | zero =>
      intro jj f1 H locs ls hi2 hk hMj hfr G hl
      exact absurd hk (by omega)
    | succ k9 ih =>
      intro jj f1 H locs ls hi2 hk hMj hfr G hl
      rcases Nat.lt_or_ge jj rj with hlt | hge
      · have hs15 : f (sq jj) = some (.inr (7, [.int (SS jj 0), .int (SS jj 1), .int (SS jj 2), .int (SS jj 3), .int (SS jj 4), .int (SS jj 5), .int (SS jj 6), .int (SS jj 7), .int (SS jj 8)])) := (hsq jj (Nat.lt_trans hlt hrN)).2
        refine lv_iload_n hx hb dX8_carryOutElements_10 rfl (lv_at hl 0 rfl) ?_
        refine lv_iload_n hx hb dX8_carryOutElements_11 rfl (lv_at hl 1 rfl) ?_
        refine lv_icmp_ge (tgt := 64) hx hb dX8_carryOutElements_12 (by decide) (fun c16 => absurd c16 ((fun q => absurd ((nI_leI (a := N) (b := jj) (by omega) (by omega)).mp q) (by omega)))) (fun _ => ?_)
        refine lv_aload_n hx hb dX8_carryOutElements_15 rfl (lv_at hl 2 rfl) ?_
        have k17 : f1 x = some (.inr (10, [.ref (A (b + 0)), .ref (A (b2 + 0)), .ref lg, .ref lg_o, .ref tx, .ref rz, .ref ro, .int xea, .int xra, .int xkr])) := hfr _ _ (MW_kind hM h_x (by decide)) h_x
        refine g_get C0 G k17 rfl hiX8 0 (by decide) mf_X8_10 rfl dX8_carryOutElements_16 ?_
        refine lv_aload_n hx hb dX8_carryOutElements_19 rfl (lv_at hl 2 rfl) ?_
        refine g_get C0 G k17 rfl hiX8 4 (by decide) mf_X8_32 rfl dX8_carryOutElements_20 ?_
        refine lv_iload_n hx hb dX8_carryOutElements_23 rfl (lv_at hl 0 rfl) ?_
        have k18 : f1 tx = some (.inr (9, [.ref bu, .ref nt, .ref pd, .int tl, .int (nI N)])) := hfr _ _ (MW_kind hM h_tx (by decide)) h_tx
        have k19 : f1 pd = some (.inl (cy 4, 60, .inr (.inr (.inr (.inr qp))))) := hfr _ _ n_pd h_pd
        refine g_cR C0 G (g_runV C0 G (rest := [.ref (A (b + 0))]) (c_X7_element hfl (tl := tl) (tc := nI N) (jj := jj) (qp := qp) k18 k19 (by omega) (hsq jj (Nat.lt_trans hlt hrN)).1) k18 rfl hY_X7_element mm_X8_181 mi_X7_element ml_X7_element ⟨(Nat.le_of_ble_eq_true rfl), (Nat.le_of_ble_eq_true rfl)⟩ rfl hl.1 rfl (Nat.le_of_ble_eq_true rfl) dX8_carryOutElements_24 ⟨(Nat.le_of_ble_eq_true rfl), (Nat.le_of_ble_eq_true rfl)⟩) (kx_no rfl) (fun a22 u21 H locs hp20 G => ?_)
        obtain ⟨zr, eu21⟩ := hp20
        replace zr := Eq.symm zr
        subst zr
        rw [eu21] at G
        have k23 : f1 (sq jj) = some (.inr (7, [.int (SS jj 0), .int (SS jj 1), .int (SS jj 2), .int (SS jj 3), .int (SS jj 4), .int (SS jj 5), .int (SS jj 6), .int (SS jj 7), .int (SS jj 8)])) := hfr _ _ (MW_kind hM (hsq jj (Nat.lt_trans hlt hrN)).2 (by decide)) hs15
        have k24 : f1 (A (b + 0)) = some (.inr (4, [.ref (A (b + 1)), .int ((fl SS cm cs jj).1 0), .int ((fl SS cm cs jj).1 1), .int ((fl SS cm cs jj).1 2), .int ((fl SS cm cs jj).1 3), .int ((fl SS cm cs jj).1 4)])) := hMj 0 (by omega)
        refine g_cI C0 G (g_runV C0 G (rest := []) (u_X2_refusalU hfl hMj (S := (SS jj)) (show _ = some (scell (SS jj)) from k23) hAj hQ (Or.inr (hpp jj hlt))) k24 rfl hY_X2_refusal mm_X8_128 mi_X2_refusal ml_X2_refusal ⟨(Nat.le_of_ble_eq_true rfl), (Nat.le_of_ble_eq_true rfl)⟩ rfl hl.1 rfl (Nat.le_of_ble_eq_true rfl) dX8_carryOutElements_27 ⟨(Nat.le_of_ble_eq_true rfl), (Nat.le_of_ble_eq_true rfl)⟩) (kx_no rfl) (fun r27 u26 H locs hp25 G => ?_)
        obtain ⟨er28, eu26⟩ := hp25
        rw [eu26] at G
        refine lv_topv (v := (rfR (fl SS cm cs jj).1 (fl SS cm cs jj).2 (SS jj))) er28 ?_
        refine lv_istore_n (lv' := [(3, .int (rfR (fl SS cm cs jj).1 (fl SS cm cs jj).2 (SS jj))), (2, .int (nI jj)), (1, .int (nI N)), (0, .ref x)]) hx hb dX8_carryOutElements_30 rfl hl (by decide) rfl (fun ls hl => ?_)
        refine lv_iload_n hx hb dX8_carryOutElements_31 rfl (lv_at hl 0 rfl) ?_
        refine lv_if_eq (tgt := 42) hx hb dX8_carryOutElements_32 (by decide) (fun _ => ?_) (fun c29 => absurd ((hrf jj hlt)) c29)
        refine lv_aload_n hx hb dX8_carryOutElements_42 rfl (lv_at hl 3 rfl) ?_
        refine g_get C0 G k17 rfl hiX8 0 (by decide) mf_X8_10 rfl dX8_carryOutElements_43 ?_
        refine lv_aload_n hx hb dX8_carryOutElements_46 rfl (lv_at hl 3 rfl) ?_
        refine g_get C0 G k17 rfl hiX8 4 (by decide) mf_X8_32 rfl dX8_carryOutElements_47 ?_
        refine lv_iload_n hx hb dX8_carryOutElements_50 rfl (lv_at hl 1 rfl) ?_
        refine g_cR C0 G (g_runV C0 G (rest := [.ref (A (b + 0))]) (c_X7_element hfl (tl := tl) (tc := nI N) (jj := jj) (qp := qp) k18 k19 (by omega) (hsq jj (Nat.lt_trans hlt hrN)).1) k18 rfl hY_X7_element mm_X8_181 mi_X7_element ml_X7_element ⟨(Nat.le_of_ble_eq_true rfl), (Nat.le_of_ble_eq_true rfl)⟩ rfl hl.1 rfl (Nat.le_of_ble_eq_true rfl) dX8_carryOutElements_51 ⟨(Nat.le_of_ble_eq_true rfl), (Nat.le_of_ble_eq_true rfl)⟩) (kx_no rfl) (fun a32 u31 H locs hp30 G => ?_)
        obtain ⟨zr, eu31⟩ := hp30
        replace zr := Eq.symm zr
        subst zr
        rw [eu31] at G
        refine g_cI C0 G (g_runV C0 G (rest := []) (u_X2_performU hfl hMj (S := (SS jj)) (show _ = some (scell (SS jj)) from k23) hAj hQ (hpp jj hlt)) k24 rfl hY_X2_perform mm_X8_146 mi_X2_perform ml_X2_perform ⟨(Nat.le_of_ble_eq_true rfl), (Nat.le_of_ble_eq_true rfl)⟩ rfl hl.1 rfl (Nat.le_of_ble_eq_true rfl) dX8_carryOutElements_54 ⟨(Nat.le_of_ble_eq_true rfl), (Nat.le_of_ble_eq_true rfl)⟩) (kx_no rfl) (fun r35 u34 H locs hp33 G => ?_)
        obtain ⟨er36, hM37, fr38⟩ := hp33
        refine lv_topv (v := (pfR (fl SS cm cs jj).1 (fl SS cm cs jj).2 (SS jj))) er36 ?_
        refine lv_pop hx hb dX8_carryOutElements_57 rfl ?_
        refine lv_iinc (v := nI (jj + 1)) (lv' := [(2, .int (nI (jj + 1))), (3, .int (rfR (fl SS cm cs jj).1 (fl SS cm cs jj).2 (SS jj))), (1, .int (nI N)), (0, .ref x)]) hx hb dX8_carryOutElements_58 hl (k := 1) rfl (by exact (nI_add _ _)) (by decide) rfl (fun ls hl => ?_)
        refine lv_goto (tgt := 10) hx hb dX8_carryOutElements_61 (by decide) ?_
        exact ih (jj + 1) u34 _ _ _ (by omega) (by omega) hM37 (fun a9 e9 h7 h8 => fr38 _ _ (fun q => h7 q) (hfr _ _ (fun q => h7 q) (h8))) G (lv_sub hl [0, 2, 3] rfl)
      · have hi9 : rj = jj := by omega
        subst hi9
        have hs40 : f (sq rj) = some (.inr (7, [.int (SS rj 0), .int (SS rj 1), .int (SS rj 2), .int (SS rj 3), .int (SS rj 4), .int (SS rj 5), .int (SS rj 6), .int (SS rj 7), .int (SS rj 8)])) := (hsq rj hrN).2
        refine lv_iload_n hx hb dX8_carryOutElements_10 rfl (lv_at hl 0 rfl) ?_
        refine lv_iload_n hx hb dX8_carryOutElements_11 rfl (lv_at hl 1 rfl) ?_
        refine lv_icmp_ge (tgt := 64) hx hb dX8_carryOutElements_12 (by decide) (fun c41 => absurd c41 ((fun q => absurd ((nI_leI (a := N) (b := rj) (by omega) (by omega)).mp q) (by omega)))) (fun _ => ?_)
        refine lv_aload_n hx hb dX8_carryOutElements_15 rfl (lv_at hl 2 rfl) ?_
        have k42 : f1 x = some (.inr (10, [.ref (A (b + 0)), .ref (A (b2 + 0)), .ref lg, .ref lg_o, .ref tx, .ref rz, .ref ro, .int xea, .int xra, .int xkr])) := hfr _ _ (MW_kind hM h_x (by decide)) h_x
        refine g_get C0 G k42 rfl hiX8 0 (by decide) mf_X8_10 rfl dX8_carryOutElements_16 ?_
        refine lv_aload_n hx hb dX8_carryOutElements_19 rfl (lv_at hl 2 rfl) ?_
        refine g_get C0 G k42 rfl hiX8 4 (by decide) mf_X8_32 rfl dX8_carryOutElements_20 ?_
        refine lv_iload_n hx hb dX8_carryOutElements_23 rfl (lv_at hl 0 rfl) ?_
        have k43 : f1 tx = some (.inr (9, [.ref bu, .ref nt, .ref pd, .int tl, .int (nI N)])) := hfr _ _ (MW_kind hM h_tx (by decide)) h_tx
        have k44 : f1 pd = some (.inl (cy 4, 60, .inr (.inr (.inr (.inr qp))))) := hfr _ _ n_pd h_pd
        refine g_cR C0 G (g_runV C0 G (rest := [.ref (A (b + 0))]) (c_X7_element hfl (tl := tl) (tc := nI N) (jj := rj) (qp := qp) k43 k44 (by omega) (hsq rj hrN).1) k43 rfl hY_X7_element mm_X8_181 mi_X7_element ml_X7_element ⟨(Nat.le_of_ble_eq_true rfl), (Nat.le_of_ble_eq_true rfl)⟩ rfl hl.1 rfl (Nat.le_of_ble_eq_true rfl) dX8_carryOutElements_24 ⟨(Nat.le_of_ble_eq_true rfl), (Nat.le_of_ble_eq_true rfl)⟩) (kx_no rfl) (fun a47 u46 H locs hp45 G => ?_)
        obtain ⟨zr, eu46⟩ := hp45
        replace zr := Eq.symm zr
        subst zr
        rw [eu46] at G
        have k48 : f1 (sq rj) = some (.inr (7, [.int (SS rj 0), .int (SS rj 1), .int (SS rj 2), .int (SS rj 3), .int (SS rj 4), .int (SS rj 5), .int (SS rj 6), .int (SS rj 7), .int (SS rj 8)])) := hfr _ _ (MW_kind hM (hsq rj hrN).2 (by decide)) hs40
        have k49 : f1 (A (b + 0)) = some (.inr (4, [.ref (A (b + 1)), .int ((fl SS cm cs rj).1 0), .int ((fl SS cm cs rj).1 1), .int ((fl SS cm cs rj).1 2), .int ((fl SS cm cs rj).1 3), .int ((fl SS cm cs rj).1 4)])) := hMj 0 (by omega)
        refine g_cI C0 G (g_runV C0 G (rest := []) (u_X2_refusalU hfl hMj (S := (SS rj)) (show _ = some (scell (SS rj)) from k48) hAj hQ hPX) k49 rfl hY_X2_refusal mm_X8_128 mi_X2_refusal ml_X2_refusal ⟨(Nat.le_of_ble_eq_true rfl), (Nat.le_of_ble_eq_true rfl)⟩ rfl hl.1 rfl (Nat.le_of_ble_eq_true rfl) dX8_carryOutElements_27 ⟨(Nat.le_of_ble_eq_true rfl), (Nat.le_of_ble_eq_true rfl)⟩) (kx_no rfl) (fun r52 u51 H locs hp50 G => ?_)
        obtain ⟨er53, eu51⟩ := hp50
        rw [eu51] at G
        refine lv_topv (v := (rfR (fl SS cm cs rj).1 (fl SS cm cs rj).2 (SS rj))) er53 ?_
        refine lv_istore_n (lv' := [(3, .int (rfR (fl SS cm cs rj).1 (fl SS cm cs rj).2 (SS rj))), (2, .int (nI rj)), (1, .int (nI N)), (0, .ref x)]) hx hb dX8_carryOutElements_30 rfl hl (by decide) rfl (fun ls hl => ?_)
        refine lv_iload_n hx hb dX8_carryOutElements_31 rfl (lv_at hl 0 rfl) ?_
        refine lv_if_eq (tgt := 42) hx hb dX8_carryOutElements_32 (by decide) (fun c54 => absurd c54 (hR)) (fun _ => ?_)
        refine lv_aload_n hx hb dX8_carryOutElements_35 rfl (lv_at hl 3 rfl) ?_
        refine lv_iload_n hx hb dX8_carryOutElements_36 rfl (lv_at hl 0 rfl) ?_
        refine g_put C0 G k42 rfl hiX8 tyX8 tyX8_ok nmX8 9 (by decide) mf_X8_53 rfl rfl rfl rfl (Nat.le_of_ble_eq_true rfl) dX8_carryOutElements_37 (fun H locs f55 hf55 G => ?_)
        have k56 : f55 x = some (.inr (10, [.ref (A (b + 0)), .ref (A (b2 + 0)), .ref lg, .ref lg_o, .ref tx, .ref rz, .ref ro, .int xea, .int xra, .int (rfR (fl SS cm cs rj).1 (fl SS cm cs rj).2 (SS rj))])) := hus hf55
        refine lv_iload_n hx hb dX8_carryOutElements_40 rfl (lv_at hl 1 rfl) ?_
        have hM57 := MW_frN hMj (put_fr hf55) (fun y9 hy9 => by simp only [List.mem_cons, List.not_mem_nil, or_false] at hy9; rw [hy9]; exact (MW_kind hM h_x (by decide)))
        exact g_iret C0 G hr dX8_carryOutElements_41 (Nat.le_of_ble_eq_true rfl) (Nat.le_of_ble_eq_true rfl) (by exact ⟨(by rw [X8_carryOutElementsR_r0]), k56, hM57, (fun a9 e9 h7 h8 => hup hf55 (fun q => h7 (by rw [q]; simp)) (hfr _ _ (fun q => h7 (by simp [q])) (h8)))⟩)
  exact LOOP10 (rj + 1) 0 f _ _ _ (by omega) (by omega) hM0 (fun a9 e9 h7 h8 => h8) G (lv_sub hl [0, 1, 2] rfl)
