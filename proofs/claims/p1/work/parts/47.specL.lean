set_option maxRecDepth 100000 in
theorem k_L_bowl {l : Launch} (hfl : l.stackTraces = false) {D : va_G} {cy : Nat → ClassId} {f : Hf} {sz : Nat} {sc m0 m1 lg sv tx r0 r1 : Nat} {ea ra kr : Int32} {al : Nat} {out : Nat} (pl : Int32) (h_sc : f sc = some (.inr (10, [.ref m0, .ref m1, .ref lg, .ref sv, .ref tx, .ref r0, .ref r1, .int ea, .int ra, .int kr]))) (h_m0 : f m0 = some (.inr (4, [.ref al, .int 0, .int 0, .int 0, .int 0, .int 0]))) : hMetH l yL_bowl cL_bowl 4 (some .int) [((0 : Nat), (9 : Nat), (12 : Nat), (19 : Nat)), ((0 : Nat), (9 : Nat), (15 : Nat), (21 : Nat))] { frames := 8, cells := 2, slots := 15, locals := 125 } D (hTy cy) f sz [.ref sc, .int pl, .ref out] (hQi (fun r u => ((r = 1 ∧ (¬ (0 ≤ pl ∧ pl ≤ 10))) ∨ (r = 2 ∧ (0 ≤ pl ∧ pl ≤ 10))) ∧ hFr f u sc) D f sz) hNo := by
  refine h_enterH (by decide) rfl hfl (Nat.le_of_ble_eq_true rfl) ?_
  intro p9 e9 s9 m9 b9 t9 c9 hsz hT9 C0 hr hnm G ls hl
  have hx := C0.1.1
  have hb := C0.1.2.1
  have hl : lv_has ls 4 [(0, .ref sc), (1, .int pl), (2, .ref out)] := hl
  refine lv_aload_n hx hb dL_bowl_0 rfl (lv_at hl 2 rfl) ?_
  refine lv_iconst (v := 0) hx hb dL_bowl_1 (by decide) ?_
  refine lv_aload_n hx hb dL_bowl_2 rfl (lv_at hl 0 rfl) ?_
  refine lv_iload_n hx hb dL_bowl_3 rfl (lv_at hl 1 rfl) ?_
  refine g_cI C0 G (g_runV C0 G (rest := [.int 0, .ref out]) (k_X8_bowl hfl pl h_sc h_m0) h_sc rfl hY_X8_bowl mm_L_15 mi_X8_bowl ml_X8_bowl ⟨(Nat.le_of_ble_eq_true rfl), (Nat.le_of_ble_eq_true rfl)⟩ rfl hl.1 rfl (Nat.le_of_ble_eq_true rfl) dL_bowl_4 ⟨(Nat.le_of_ble_eq_true rfl), (Nat.le_of_ble_eq_true rfl)⟩) ?_ (fun _ _ _ _ h _ => h.elim)
  · intro E9 ce9 q9 u9 H1 locs1 hpx G hce hcv hcl
    rcases hpx with ⟨⟨rfl, hP⟩ | ⟨rfl, hP⟩, hfr⟩
    · refine g_catch C0 hT9 [] [(0, 9, 15, 21)] (0, 9, 12, 19) rfl (fun z hz => by cases hz) rfl (by decide) mk_L_19 mca_IOB hce hcv hcl ?_
      refine lv_astore_n (lv' := [(3, .ref q9), (0, .ref sc), (1, .int pl), (2, .ref out)]) hx hb dL_bowl_12 rfl hl (by decide) rfl (fun ls hl => ?_)
      refine lv_iconst (v := 1) hx hb dL_bowl_13 (by decide) ?_
      exact g_iret C0 G hr dL_bowl_14 (Nat.le_of_ble_eq_true rfl) (Nat.le_of_ble_eq_true rfl) (by exact ⟨Or.inl ⟨rfl, hP⟩, hfr⟩)
    · refine g_catch C0 hT9 [(0, 9, 12, 19)] [] (0, 9, 15, 21) rfl (fun z hz => by simp only [List.mem_cons, List.not_mem_nil, or_false] at hz; subst hz; exact ⟨by decide, _, mk_L_19, by decide⟩) rfl (by decide) mk_L_21 mca_ISE hce hcv hcl ?_
      refine lv_astore_n (lv' := [(3, .ref q9), (0, .ref sc), (1, .int pl), (2, .ref out)]) hx hb dL_bowl_15 rfl hl (by decide) rfl (fun ls hl => ?_)
      refine lv_iconst (v := 2) hx hb dL_bowl_16 (by decide) ?_
      exact g_iret C0 G hr dL_bowl_17 (Nat.le_of_ble_eq_true rfl) (Nat.le_of_ble_eq_true rfl) (by exact ⟨Or.inr ⟨rfl, hP⟩, hfr⟩)
set_option maxRecDepth 100000 in
theorem k_L_ball {l : Launch} (hfl : l.stackTraces = false) {D : va_G} {cy : Nat → ClassId} {f : Hf} {sz : Nat} {sc m0 m1 lg sv tx r0 r1 : Nat} {ea ra kr : Int32} {al : Nat} {out : Nat} (ki ru bo : Int32) (h_sc : f sc = some (.inr (10, [.ref m0, .ref m1, .ref lg, .ref sv, .ref tx, .ref r0, .ref r1, .int ea, .int ra, .int kr]))) (h_m0 : f m0 = some (.inr (4, [.ref al, .int 0, .int 0, .int 0, .int 0, .int 0]))) (hb_bo : bo = 0 ∨ bo = 1) : hMetH l yL_ball cL_ball 6 (some .int) [((0 : Nat), (12 : Nat), (15 : Nat), (13 : Nat)), ((0 : Nat), (12 : Nat), (19 : Nat), (21 : Nat))] { frames := 8, cells := 2, slots := 15, locals := 127 } D (hTy cy) f sz [.ref sc, .int ki, .int ru, .int bo, .ref out] (hQi (fun r u => ((r = 1 ∧ (¬ ((0 ≤ ki ∧ ki ≤ 4) ∧ ((if ki = 3 ∨ ki = 4 then 1 else 0) ≤ ru ∧ ru ≤ (if ki = 0 ∨ ki = 2 then 6 else 4)) ∧ (bo = 0 ∨ ((ki = 0 ∨ ki = 2) ∧ (ru = 4 ∨ ru = 6)))))) ∨ (r = 2 ∧ ((0 ≤ ki ∧ ki ≤ 4) ∧ ((if ki = 3 ∨ ki = 4 then 1 else 0) ≤ ru ∧ ru ≤ (if ki = 0 ∨ ki = 2 then 6 else 4)) ∧ (bo = 0 ∨ ((ki = 0 ∨ ki = 2) ∧ (ru = 4 ∨ ru = 6)))))) ∧ hFr f u sc) D f sz) hNo := by
  refine h_enterH (by decide) rfl hfl (Nat.le_of_ble_eq_true rfl) ?_
  intro p9 e9 s9 m9 b9 t9 c9 hsz hT9 C0 hr hnm G ls hl
  have hx := C0.1.1
  have hb := C0.1.2.1
  have hl : lv_has ls 6 [(0, .ref sc), (1, .int ki), (2, .int ru), (3, .int bo), (4, .ref out)] := hl
  refine lv_aload hx hb dL_ball_0 (lv_at hl 4 rfl) ?_
  refine lv_iconst (v := 0) hx hb dL_ball_2 (by decide) ?_
  refine lv_aload_n hx hb dL_ball_3 rfl (lv_at hl 0 rfl) ?_
  refine lv_iload_n hx hb dL_ball_4 rfl (lv_at hl 1 rfl) ?_
  refine lv_iload_n hx hb dL_ball_5 rfl (lv_at hl 2 rfl) ?_
  refine lv_iload_n hx hb dL_ball_6 rfl (lv_at hl 3 rfl) ?_
  refine g_cI C0 G (g_runV C0 G (rest := [.int 0, .ref out]) (k_X8_ball hfl ki ru bo h_sc h_m0 hb_bo) h_sc rfl hY_X8_ball mm_L_23 mi_X8_ball ml_X8_ball ⟨(Nat.le_of_ble_eq_true rfl), (Nat.le_of_ble_eq_true rfl)⟩ rfl hl.1 rfl (Nat.le_of_ble_eq_true rfl) dL_ball_7 ⟨(Nat.le_of_ble_eq_true rfl), (Nat.le_of_ble_eq_true rfl)⟩) ?_ (fun _ _ _ _ h _ => h.elim)
  · intro E9 ce9 q9 u9 H1 locs1 hpx G hce hcv hcl
    rcases hpx with ⟨⟨rfl, hP⟩ | ⟨rfl, hP⟩, hfr⟩
    · refine g_catch C0 hT9 [] [(0, 12, 19, 21)] (0, 12, 15, 13) rfl (fun z hz => by cases hz) rfl (by decide) mk_L_13 mca_IAE hce hcv hcl ?_
      refine lv_astore (lv' := [(5, .ref q9), (0, .ref sc), (1, .int ki), (2, .int ru), (3, .int bo), (4, .ref out)]) hx hb dL_ball_15 hl (by decide) rfl (fun ls hl => ?_)
      refine lv_iconst (v := 1) hx hb dL_ball_17 (by decide) ?_
      exact g_iret C0 G hr dL_ball_18 (Nat.le_of_ble_eq_true rfl) (Nat.le_of_ble_eq_true rfl) (by exact ⟨Or.inl ⟨rfl, hP⟩, hfr⟩)
    · refine g_catch C0 hT9 [(0, 12, 15, 13)] [] (0, 12, 19, 21) rfl (fun z hz => by simp only [List.mem_cons, List.not_mem_nil, or_false] at hz; subst hz; exact ⟨by decide, _, mk_L_13, by decide⟩) rfl (by decide) mk_L_21 mca_ISE hce hcv hcl ?_
      refine lv_astore (lv' := [(5, .ref q9), (0, .ref sc), (1, .int ki), (2, .int ru), (3, .int bo), (4, .ref out)]) hx hb dL_ball_19 hl (by decide) rfl (fun ls hl => ?_)
      refine lv_iconst (v := 2) hx hb dL_ball_21 (by decide) ?_
      exact g_iret C0 G hr dL_ball_22 (Nat.le_of_ble_eq_true rfl) (Nat.le_of_ble_eq_true rfl) (by exact ⟨Or.inr ⟨rfl, hP⟩, hfr⟩)
set_option maxRecDepth 100000 in
theorem k_L_wicket {l : Launch} (hfl : l.stackTraces = false) {D : va_G} {cy : Nat → ClassId} {f : Hf} {sz : Nat} {sc m0 m1 lg sv tx r0 r1 : Nat} {ea ra kr : Int32} {al : Nat} {out : Nat} (wa ki ot ru cr : Int32) (h_sc : f sc = some (.inr (10, [.ref m0, .ref m1, .ref lg, .ref sv, .ref tx, .ref r0, .ref r1, .int ea, .int ra, .int kr]))) (h_m0 : f m0 = some (.inr (4, [.ref al, .int 0, .int 0, .int 0, .int 0, .int 0]))) (hb_ot : ot = 0 ∨ ot = 1) (hb_cr : cr = 0 ∨ cr = 1) : hMetH l yL_wicket cL_wicket 8 (some .int) [((0 : Nat), (16 : Nat), (19 : Nat), (13 : Nat)), ((0 : Nat), (16 : Nat), (23 : Nat), (21 : Nat))] { frames := 8, cells := 2, slots := 15, locals := 129 } D (hTy cy) f sz [.ref sc, .int wa, .int ki, .int ot, .int ru, .int cr, .ref out] (hQi (fun r u => ((r = 1 ∧ (¬ ((0 ≤ wa ∧ wa ≤ 5) ∧ (0 ≤ ki ∧ ki ≤ 2) ∧ (0 ≤ ru ∧ ru ≤ 3)))) ∨ (r = 2 ∧ ((0 ≤ wa ∧ wa ≤ 5) ∧ (0 ≤ ki ∧ ki ≤ 2) ∧ (0 ≤ ru ∧ ru ≤ 3)))) ∧ hFr f u sc) D f sz) hNo := by
  refine h_enterH (by decide) rfl hfl (Nat.le_of_ble_eq_true rfl) ?_
  intro p9 e9 s9 m9 b9 t9 c9 hsz hT9 C0 hr hnm G ls hl
  have hx := C0.1.1
  have hb := C0.1.2.1
  have hl : lv_has ls 8 [(0, .ref sc), (1, .int wa), (2, .int ki), (3, .int ot), (4, .int ru), (5, .int cr), (6, .ref out)] := hl
  refine lv_aload hx hb dL_wicket_0 (lv_at hl 6 rfl) ?_
  refine lv_iconst (v := 0) hx hb dL_wicket_2 (by decide) ?_
  refine lv_aload_n hx hb dL_wicket_3 rfl (lv_at hl 0 rfl) ?_
  refine lv_iload_n hx hb dL_wicket_4 rfl (lv_at hl 1 rfl) ?_
  refine lv_iload_n hx hb dL_wicket_5 rfl (lv_at hl 2 rfl) ?_
  refine lv_iload_n hx hb dL_wicket_6 rfl (lv_at hl 3 rfl) ?_
  refine lv_iload hx hb dL_wicket_7 (lv_at hl 4 rfl) ?_
  refine lv_iload hx hb dL_wicket_9 (lv_at hl 5 rfl) ?_
  refine g_cI C0 G (g_runV C0 G (rest := [.int 0, .ref out]) (k_X8_wicket hfl wa ki ot ru cr h_sc h_m0 hb_ot hb_cr) h_sc rfl hY_X8_wicket mm_L_27 mi_X8_wicket ml_X8_wicket ⟨(Nat.le_of_ble_eq_true rfl), (Nat.le_of_ble_eq_true rfl)⟩ rfl hl.1 rfl (Nat.le_of_ble_eq_true rfl) dL_wicket_11 ⟨(Nat.le_of_ble_eq_true rfl), (Nat.le_of_ble_eq_true rfl)⟩) ?_ (fun _ _ _ _ h _ => h.elim)
  · intro E9 ce9 q9 u9 H1 locs1 hpx G hce hcv hcl
    rcases hpx with ⟨⟨rfl, hP⟩ | ⟨rfl, hP⟩, hfr⟩
    · refine g_catch C0 hT9 [] [(0, 16, 23, 21)] (0, 16, 19, 13) rfl (fun z hz => by cases hz) rfl (by decide) mk_L_13 mca_IAE hce hcv hcl ?_
      refine lv_astore (lv' := [(7, .ref q9), (0, .ref sc), (1, .int wa), (2, .int ki), (3, .int ot), (4, .int ru), (5, .int cr), (6, .ref out)]) hx hb dL_wicket_19 hl (by decide) rfl (fun ls hl => ?_)
      refine lv_iconst (v := 1) hx hb dL_wicket_21 (by decide) ?_
      exact g_iret C0 G hr dL_wicket_22 (Nat.le_of_ble_eq_true rfl) (Nat.le_of_ble_eq_true rfl) (by exact ⟨Or.inl ⟨rfl, hP⟩, hfr⟩)
    · refine g_catch C0 hT9 [(0, 16, 19, 13)] [] (0, 16, 23, 21) rfl (fun z hz => by simp only [List.mem_cons, List.not_mem_nil, or_false] at hz; subst hz; exact ⟨by decide, _, mk_L_13, by decide⟩) rfl (by decide) mk_L_21 mca_ISE hce hcv hcl ?_
      refine lv_astore (lv' := [(7, .ref q9), (0, .ref sc), (1, .int wa), (2, .int ki), (3, .int ot), (4, .int ru), (5, .int cr), (6, .ref out)]) hx hb dL_wicket_23 hl (by decide) rfl (fun ls hl => ?_)
      refine lv_iconst (v := 2) hx hb dL_wicket_25 (by decide) ?_
      exact g_iret C0 G hr dL_wicket_26 (Nat.le_of_ble_eq_true rfl) (Nat.le_of_ble_eq_true rfl) (by exact ⟨Or.inr ⟨rfl, hP⟩, hfr⟩)
set_option maxRecDepth 100000 in
theorem k_L_retire {l : Launch} (hfl : l.stackTraces = false) {D : va_G} {cy : Nat → ClassId} {f : Hf} {sz : Nat} {sc m0 m1 lg sv tx r0 r1 : Nat} {ea ra kr : Int32} {al : Nat} {out : Nat} (ot hu : Int32) (h_sc : f sc = some (.inr (10, [.ref m0, .ref m1, .ref lg, .ref sv, .ref tx, .ref r0, .ref r1, .int ea, .int ra, .int kr]))) (h_m0 : f m0 = some (.inr (4, [.ref al, .int 0, .int 0, .int 0, .int 0, .int 0]))) (hb_ot : ot = 0 ∨ ot = 1) (hb_hu : hu = 0 ∨ hu = 1) : hMetH l yL_retire cL_retire 5 (some .int) [((0 : Nat), (10 : Nat), (13 : Nat), (21 : Nat))] { frames := 8, cells := 2, slots := 15, locals := 126 } D (hTy cy) f sz [.ref sc, .int ot, .int hu, .ref out] (hQi (fun r u => r = 1 ∧ hFr f u sc) D f sz) hNo := by
  refine h_enterH (by decide) rfl hfl (Nat.le_of_ble_eq_true rfl) ?_
  intro p9 e9 s9 m9 b9 t9 c9 hsz hT9 C0 hr hnm G ls hl
  have hx := C0.1.1
  have hb := C0.1.2.1
  have hl : lv_has ls 5 [(0, .ref sc), (1, .int ot), (2, .int hu), (3, .ref out)] := hl
  refine lv_aload_n hx hb dL_retire_0 rfl (lv_at hl 3 rfl) ?_
  refine lv_iconst (v := 0) hx hb dL_retire_1 (by decide) ?_
  refine lv_aload_n hx hb dL_retire_2 rfl (lv_at hl 0 rfl) ?_
  refine lv_iload_n hx hb dL_retire_3 rfl (lv_at hl 1 rfl) ?_
  refine lv_iload_n hx hb dL_retire_4 rfl (lv_at hl 2 rfl) ?_
  refine g_cI C0 G (g_runV C0 G (rest := [.int 0, .ref out]) (k_X8_retire hfl ot hu h_sc h_m0 hb_ot hb_hu) h_sc rfl hY_X8_retire mm_L_31 mi_X8_retire ml_X8_retire ⟨(Nat.le_of_ble_eq_true rfl), (Nat.le_of_ble_eq_true rfl)⟩ rfl hl.1 rfl (Nat.le_of_ble_eq_true rfl) dL_retire_5 ⟨(Nat.le_of_ble_eq_true rfl), (Nat.le_of_ble_eq_true rfl)⟩) ?_ (fun _ _ _ _ h _ => h.elim)
  · intro E9 ce9 q9 u9 H1 locs1 hpx G hce hcv hcl
    obtain ⟨rfl, hfr⟩ := hpx
    refine g_catch C0 hT9 [] [] (0, 10, 13, 21) rfl (fun z hz => by cases hz) rfl (by decide) mk_L_21 mca_ISE hce hcv hcl ?_
    refine lv_astore (lv' := [(4, .ref q9), (0, .ref sc), (1, .int ot), (2, .int hu), (3, .ref out)]) hx hb dL_retire_13 hl (by decide) rfl (fun ls hl => ?_)
    refine lv_iconst (v := 1) hx hb dL_retire_15 (by decide) ?_
    exact g_iret C0 G hr dL_retire_16 (Nat.le_of_ble_eq_true rfl) (Nat.le_of_ble_eq_true rfl) (by exact ⟨rfl, hfr⟩)
set_option maxRecDepth 100000 in
theorem k_L_choose {l : Launch} (hfl : l.stackTraces = false) {D : va_G} {cy : Nat → ClassId} {f : Hf} {sz : Nat} {sc m0 m1 lg sv tx r0 r1 : Nat} {ea ra kr : Int32} {al : Nat} {out : Nat} (pl : Int32) (h_sc : f sc = some (.inr (10, [.ref m0, .ref m1, .ref lg, .ref sv, .ref tx, .ref r0, .ref r1, .int ea, .int ra, .int kr]))) (h_m0 : f m0 = some (.inr (4, [.ref al, .int 0, .int 0, .int 0, .int 0, .int 0]))) : hMetH l yL_choose cL_choose 4 (some .int) [((0 : Nat), (9 : Nat), (12 : Nat), (19 : Nat)), ((0 : Nat), (9 : Nat), (15 : Nat), (21 : Nat))] { frames := 8, cells := 2, slots := 15, locals := 125 } D (hTy cy) f sz [.ref sc, .int pl, .ref out] (hQi (fun r u => ((r = 1 ∧ (¬ (0 ≤ pl ∧ pl ≤ 10))) ∨ (r = 2 ∧ (0 ≤ pl ∧ pl ≤ 10))) ∧ hFr f u sc) D f sz) hNo := by
  refine h_enterH (by decide) rfl hfl (Nat.le_of_ble_eq_true rfl) ?_
  intro p9 e9 s9 m9 b9 t9 c9 hsz hT9 C0 hr hnm G ls hl
  have hx := C0.1.1
  have hb := C0.1.2.1
  have hl : lv_has ls 4 [(0, .ref sc), (1, .int pl), (2, .ref out)] := hl
  refine lv_aload_n hx hb dL_choose_0 rfl (lv_at hl 2 rfl) ?_
  refine lv_iconst (v := 0) hx hb dL_choose_1 (by decide) ?_
  refine lv_aload_n hx hb dL_choose_2 rfl (lv_at hl 0 rfl) ?_
  refine lv_iload_n hx hb dL_choose_3 rfl (lv_at hl 1 rfl) ?_
  refine g_cI C0 G (g_runV C0 G (rest := [.int 0, .ref out]) (k_X8_choose hfl pl h_sc h_m0) h_sc rfl hY_X8_choose mm_L_35 mi_X8_choose ml_X8_choose ⟨(Nat.le_of_ble_eq_true rfl), (Nat.le_of_ble_eq_true rfl)⟩ rfl hl.1 rfl (Nat.le_of_ble_eq_true rfl) dL_choose_4 ⟨(Nat.le_of_ble_eq_true rfl), (Nat.le_of_ble_eq_true rfl)⟩) ?_ (fun _ _ _ _ h _ => h.elim)
  · intro E9 ce9 q9 u9 H1 locs1 hpx G hce hcv hcl
    rcases hpx with ⟨⟨rfl, hP⟩ | ⟨rfl, hP⟩, hfr⟩
    · refine g_catch C0 hT9 [] [(0, 9, 15, 21)] (0, 9, 12, 19) rfl (fun z hz => by cases hz) rfl (by decide) mk_L_19 mca_IOB hce hcv hcl ?_
      refine lv_astore_n (lv' := [(3, .ref q9), (0, .ref sc), (1, .int pl), (2, .ref out)]) hx hb dL_choose_12 rfl hl (by decide) rfl (fun ls hl => ?_)
      refine lv_iconst (v := 1) hx hb dL_choose_13 (by decide) ?_
      exact g_iret C0 G hr dL_choose_14 (Nat.le_of_ble_eq_true rfl) (Nat.le_of_ble_eq_true rfl) (by exact ⟨Or.inl ⟨rfl, hP⟩, hfr⟩)
    · refine g_catch C0 hT9 [(0, 9, 12, 19)] [] (0, 9, 15, 21) rfl (fun z hz => by simp only [List.mem_cons, List.not_mem_nil, or_false] at hz; subst hz; exact ⟨by decide, _, mk_L_19, by decide⟩) rfl (by decide) mk_L_21 mca_ISE hce hcv hcl ?_
      refine lv_astore_n (lv' := [(3, .ref q9), (0, .ref sc), (1, .int pl), (2, .ref out)]) hx hb dL_choose_15 rfl hl (by decide) rfl (fun ls hl => ?_)
      refine lv_iconst (v := 2) hx hb dL_choose_16 (by decide) ?_
      exact g_iret C0 G hr dL_choose_17 (Nat.le_of_ble_eq_true rfl) (Nat.le_of_ble_eq_true rfl) (by exact ⟨Or.inr ⟨rfl, hP⟩, hfr⟩)
set_option maxRecDepth 100000 in
theorem k_L_declare {l : Launch} (hfl : l.stackTraces = false) {D : va_G} {cy : Nat → ClassId} {f : Hf} {sz : Nat} {sc m0 m1 lg sv tx r0 r1 : Nat} {ea ra kr : Int32} {al : Nat} {out : Nat} (h_sc : f sc = some (.inr (10, [.ref m0, .ref m1, .ref lg, .ref sv, .ref tx, .ref r0, .ref r1, .int ea, .int ra, .int kr]))) (h_m0 : f m0 = some (.inr (4, [.ref al, .int 0, .int 0, .int 0, .int 0, .int 0]))) : hMetH l yL_declare cL_declare 3 (some .int) [((0 : Nat), (8 : Nat), (11 : Nat), (21 : Nat))] { frames := 8, cells := 2, slots := 15, locals := 124 } D (hTy cy) f sz [.ref sc, .ref out] (hQi (fun r u => r = 1 ∧ hFr f u sc) D f sz) hNo := by
  refine h_enterH (by decide) rfl hfl (Nat.le_of_ble_eq_true rfl) ?_
  intro p9 e9 s9 m9 b9 t9 c9 hsz hT9 C0 hr hnm G ls hl
  have hx := C0.1.1
  have hb := C0.1.2.1
  have hl : lv_has ls 3 [(0, .ref sc), (1, .ref out)] := hl
  refine lv_aload_n hx hb dL_declare_0 rfl (lv_at hl 1 rfl) ?_
  refine lv_iconst (v := 0) hx hb dL_declare_1 (by decide) ?_
  refine lv_aload_n hx hb dL_declare_2 rfl (lv_at hl 0 rfl) ?_
  refine g_cI C0 G (g_runV C0 G (rest := [.int 0, .ref out]) (k_X8_declare hfl  h_sc h_m0) h_sc rfl hY_X8_declare mm_L_38 mi_X8_declare ml_X8_declare ⟨(Nat.le_of_ble_eq_true rfl), (Nat.le_of_ble_eq_true rfl)⟩ rfl hl.1 rfl (Nat.le_of_ble_eq_true rfl) dL_declare_3 ⟨(Nat.le_of_ble_eq_true rfl), (Nat.le_of_ble_eq_true rfl)⟩) ?_ (fun _ _ _ _ h _ => h.elim)
  · intro E9 ce9 q9 u9 H1 locs1 hpx G hce hcv hcl
    obtain ⟨rfl, hfr⟩ := hpx
    refine g_catch C0 hT9 [] [] (0, 8, 11, 21) rfl (fun z hz => by cases hz) rfl (by decide) mk_L_21 mca_ISE hce hcv hcl ?_
    refine lv_astore_n (lv' := [(2, .ref q9), (0, .ref sc), (1, .ref out)]) hx hb dL_declare_11 rfl hl (by decide) rfl (fun ls hl => ?_)
    refine lv_iconst (v := 1) hx hb dL_declare_12 (by decide) ?_
    exact g_iret C0 G hr dL_declare_13 (Nat.le_of_ble_eq_true rfl) (Nat.le_of_ble_eq_true rfl) (by exact ⟨rfl, hfr⟩)
set_option maxRecDepth 100000 in
theorem k_L_loseOvers {l : Launch} (hfl : l.stackTraces = false) {D : va_G} {cy : Nat → ClassId} {f : Hf} {sz : Nat} {sc m0 m1 lg sv tx r0 r1 : Nat} {ea ra kr : Int32} {al : Nat} {out : Nat} (ov : Int32) (h_sc : f sc = some (.inr (10, [.ref m0, .ref m1, .ref lg, .ref sv, .ref tx, .ref r0, .ref r1, .int ea, .int ra, .int kr]))) (h_m0 : f m0 = some (.inr (4, [.ref al, .int 0, .int 0, .int 0, .int 0, .int 0]))) : hMetH l yL_loseOvers cL_loseOvers 4 (some .int) [((0 : Nat), (9 : Nat), (12 : Nat), (13 : Nat)), ((0 : Nat), (9 : Nat), (15 : Nat), (21 : Nat))] { frames := 8, cells := 2, slots := 15, locals := 125 } D (hTy cy) f sz [.ref sc, .int ov, .ref out] (hQi (fun r u => ((r = 1 ∧ (¬ (1 ≤ ov ∧ ov ≤ 19))) ∨ (r = 2 ∧ (1 ≤ ov ∧ ov ≤ 19))) ∧ hFr f u sc) D f sz) hNo := by
  refine h_enterH (by decide) rfl hfl (Nat.le_of_ble_eq_true rfl) ?_
  intro p9 e9 s9 m9 b9 t9 c9 hsz hT9 C0 hr hnm G ls hl
  have hx := C0.1.1
  have hb := C0.1.2.1
  have hl : lv_has ls 4 [(0, .ref sc), (1, .int ov), (2, .ref out)] := hl
  refine lv_aload_n hx hb dL_loseOvers_0 rfl (lv_at hl 2 rfl) ?_
  refine lv_iconst (v := 0) hx hb dL_loseOvers_1 (by decide) ?_
  refine lv_aload_n hx hb dL_loseOvers_2 rfl (lv_at hl 0 rfl) ?_
  refine lv_iload_n hx hb dL_loseOvers_3 rfl (lv_at hl 1 rfl) ?_
  refine g_cI C0 G (g_runV C0 G (rest := [.int 0, .ref out]) (k_X8_loseOvers hfl ov h_sc h_m0) h_sc rfl hY_X8_loseOvers mm_L_42 mi_X8_loseOvers ml_X8_loseOvers ⟨(Nat.le_of_ble_eq_true rfl), (Nat.le_of_ble_eq_true rfl)⟩ rfl hl.1 rfl (Nat.le_of_ble_eq_true rfl) dL_loseOvers_4 ⟨(Nat.le_of_ble_eq_true rfl), (Nat.le_of_ble_eq_true rfl)⟩) ?_ (fun _ _ _ _ h _ => h.elim)
  · intro E9 ce9 q9 u9 H1 locs1 hpx G hce hcv hcl
    rcases hpx with ⟨⟨rfl, hP⟩ | ⟨rfl, hP⟩, hfr⟩
    · refine g_catch C0 hT9 [] [(0, 9, 15, 21)] (0, 9, 12, 13) rfl (fun z hz => by cases hz) rfl (by decide) mk_L_13 mca_IAE hce hcv hcl ?_
      refine lv_astore_n (lv' := [(3, .ref q9), (0, .ref sc), (1, .int ov), (2, .ref out)]) hx hb dL_loseOvers_12 rfl hl (by decide) rfl (fun ls hl => ?_)
      refine lv_iconst (v := 1) hx hb dL_loseOvers_13 (by decide) ?_
      exact g_iret C0 G hr dL_loseOvers_14 (Nat.le_of_ble_eq_true rfl) (Nat.le_of_ble_eq_true rfl) (by exact ⟨Or.inl ⟨rfl, hP⟩, hfr⟩)
    · refine g_catch C0 hT9 [(0, 9, 12, 13)] [] (0, 9, 15, 21) rfl (fun z hz => by simp only [List.mem_cons, List.not_mem_nil, or_false] at hz; subst hz; exact ⟨by decide, _, mk_L_13, by decide⟩) rfl (by decide) mk_L_21 mca_ISE hce hcv hcl ?_
      refine lv_astore_n (lv' := [(3, .ref q9), (0, .ref sc), (1, .int ov), (2, .ref out)]) hx hb dL_loseOvers_15 rfl hl (by decide) rfl (fun ls hl => ?_)
      refine lv_iconst (v := 2) hx hb dL_loseOvers_16 (by decide) ?_
      exact g_iret C0 G hr dL_loseOvers_17 (Nat.le_of_ble_eq_true rfl) (Nat.le_of_ble_eq_true rfl) (by exact ⟨Or.inr ⟨rfl, hP⟩, hfr⟩)
set_option maxRecDepth 100000 in
theorem k_L_play {l : Launch} (hfl : l.stackTraces = false) {D : va_G} {cy : Nat → ClassId} {f : Hf} {sz : Nat} {sc m0 m1 lg sv tx r0 r1 : Nat} {ea ra kr : Int32} {bf tn tp : Nat} {out : Nat} (h_sc : f sc = some (.inr (10, [.ref m0, .ref m1, .ref lg, .ref sv, .ref tx, .ref r0, .ref r1, .int ea, .int ra, .int kr]))) (h_tx : f tx = some (.inr (9, [.ref bf, .ref tn, .ref tp, .int 0, .int 0]))) : hMetH l yL_play cL_play 3 (some .int) [((0 : Nat), (8 : Nat), (11 : Nat), (13 : Nat)), ((0 : Nat), (8 : Nat), (14 : Nat), (49 : Nat))] { frames := 7, cells := 1, slots := 6, locals := 104 } D (hTy cy) f sz [.ref sc, .ref out] (hQi (fun r u => r = 1 ∧ hFrL f u [sc, tx]) D f sz) hNo := by
  refine h_enterH (by decide) rfl hfl (Nat.le_of_ble_eq_true rfl) ?_
  intro p9 e9 s9 m9 b9 t9 c9 hsz hT9 C0 hr hnm G ls hl
  have hx := C0.1.1
  have hb := C0.1.2.1
  have hl : lv_has ls 3 [(0, .ref sc), (1, .ref out)] := hl
  refine lv_aload_n hx hb dL_play_0 rfl (lv_at hl 1 rfl) ?_
  refine lv_iconst (v := 0) hx hb dL_play_1 (by decide) ?_
  refine lv_aload_n hx hb dL_play_2 rfl (lv_at hl 0 rfl) ?_
  refine g_cI C0 G (g_runV C0 G (rest := [.int 0, .ref out]) (k_X8_play hfl  h_sc h_tx) h_sc rfl hY_X8_play mm_L_51 mi_X8_play ml_X8_play ⟨(Nat.le_of_ble_eq_true rfl), (Nat.le_of_ble_eq_true rfl)⟩ rfl hl.1 rfl (Nat.le_of_ble_eq_true rfl) dL_play_3 ⟨(Nat.le_of_ble_eq_true rfl), (Nat.le_of_ble_eq_true rfl)⟩) ?_ (fun _ _ _ _ h _ => h.elim)
  · intro E9 ce9 q9 u9 H1 locs1 hpx G hce hcv hcl
    obtain ⟨rfl, hfr⟩ := hpx
    refine g_catch C0 hT9 [] [(0, 8, 14, 49)] (0, 8, 11, 13) rfl (fun z hz => by cases hz) rfl (by decide) mk_L_13 mca_IAE hce hcv hcl ?_
    refine lv_astore_n (lv' := [(2, .ref q9), (0, .ref sc), (1, .ref out)]) hx hb dL_play_11 rfl hl (by decide) rfl (fun ls hl => ?_)
    refine lv_iconst (v := 1) hx hb dL_play_12 (by decide) ?_
    exact g_iret C0 G hr dL_play_13 (Nat.le_of_ble_eq_true rfl) (Nat.le_of_ble_eq_true rfl) (by exact ⟨rfl, hfr⟩)
set_option maxRecDepth 100000 in
theorem k_L_errorPosition {l : Launch} (hfl : l.stackTraces = false) {D : va_G} {cy : Nat → ClassId} {f : Hf} {sz : Nat} {sc m0 m1 lg sv tx r0 r1 : Nat} {out : Nat} (h_sc : f sc = some (.inr (10, [.ref m0, .ref m1, .ref lg, .ref sv, .ref tx, .ref r0, .ref r1, .int (-1), .int (-1), .int 0]))) : hMetH l yL_errorPosition cL_errorPosition 3 (some .int) [((0 : Nat), (8 : Nat), (11 : Nat), (57 : Nat))] { frames := 7, cells := 1, slots := 6, locals := 102 } D (hTy cy) f sz [.ref sc, .ref out] (hQi (fun r u => r = 1 ∧ hFr f u sc) D f sz) hNo := by
  refine h_enterH (by decide) rfl hfl (Nat.le_of_ble_eq_true rfl) ?_
  intro p9 e9 s9 m9 b9 t9 c9 hsz hT9 C0 hr hnm G ls hl
  have hx := C0.1.1
  have hb := C0.1.2.1
  have hl : lv_has ls 3 [(0, .ref sc), (1, .ref out)] := hl
  refine lv_aload_n hx hb dL_errorPosition_0 rfl (lv_at hl 1 rfl) ?_
  refine lv_iconst (v := 0) hx hb dL_errorPosition_1 (by decide) ?_
  refine lv_aload_n hx hb dL_errorPosition_2 rfl (lv_at hl 0 rfl) ?_
  refine g_cI C0 G (g_runV C0 G (rest := [.int 0, .ref out]) (k_X8_errorPosition hfl  h_sc) h_sc rfl hY_X8_errorPosition mm_L_54 mi_X8_errorPosition ml_X8_errorPosition ⟨(Nat.le_of_ble_eq_true rfl), (Nat.le_of_ble_eq_true rfl)⟩ rfl hl.1 rfl (Nat.le_of_ble_eq_true rfl) dL_errorPosition_3 ⟨(Nat.le_of_ble_eq_true rfl), (Nat.le_of_ble_eq_true rfl)⟩) ?_ (fun _ _ _ _ h _ => h.elim)
  · intro E9 ce9 q9 u9 H1 locs1 hpx G hce hcv hcl
    obtain ⟨rfl, hfr⟩ := hpx
    refine g_catch C0 hT9 [] [] (0, 8, 11, 57) rfl (fun z hz => by cases hz) rfl (by decide) mk_L_57 mca_NSE hce hcv hcl ?_
    refine lv_astore_n (lv' := [(2, .ref q9), (0, .ref sc), (1, .ref out)]) hx hb dL_errorPosition_11 rfl hl (by decide) rfl (fun ls hl => ?_)
    refine lv_iconst (v := 1) hx hb dL_errorPosition_12 (by decide) ?_
    exact g_iret C0 G hr dL_errorPosition_13 (Nat.le_of_ble_eq_true rfl) (Nat.le_of_ble_eq_true rfl) (by exact ⟨rfl, (by rw [hfr]; exact fun _ _ _ h => h)⟩)
set_option maxRecDepth 100000 in
theorem k_L_refused {l : Launch} (hfl : l.stackTraces = false) {D : va_G} {cy : Nat → ClassId} {f : Hf} {sz : Nat} {sc m0 m1 lg sv tx r0 r1 : Nat} {out : Nat} (h_sc : f sc = some (.inr (10, [.ref m0, .ref m1, .ref lg, .ref sv, .ref tx, .ref r0, .ref r1, .int (-1), .int (-1), .int 0]))) : hMetH l yL_refused cL_refused 3 (some .int) [((0 : Nat), (8 : Nat), (11 : Nat), (57 : Nat))] { frames := 7, cells := 1, slots := 6, locals := 102 } D (hTy cy) f sz [.ref sc, .ref out] (hQi (fun r u => r = 1 ∧ hFr f u sc) D f sz) hNo := by
  refine h_enterH (by decide) rfl hfl (Nat.le_of_ble_eq_true rfl) ?_
  intro p9 e9 s9 m9 b9 t9 c9 hsz hT9 C0 hr hnm G ls hl
  have hx := C0.1.1
  have hb := C0.1.2.1
  have hl : lv_has ls 3 [(0, .ref sc), (1, .ref out)] := hl
  refine lv_aload_n hx hb dL_refused_0 rfl (lv_at hl 1 rfl) ?_
  refine lv_iconst (v := 0) hx hb dL_refused_1 (by decide) ?_
  refine lv_aload_n hx hb dL_refused_2 rfl (lv_at hl 0 rfl) ?_
  refine g_cI C0 G (g_runV C0 G (rest := [.int 0, .ref out]) (k_X8_refused hfl  h_sc) h_sc rfl hY_X8_refused mm_L_59 mi_X8_refused ml_X8_refused ⟨(Nat.le_of_ble_eq_true rfl), (Nat.le_of_ble_eq_true rfl)⟩ rfl hl.1 rfl (Nat.le_of_ble_eq_true rfl) dL_refused_3 ⟨(Nat.le_of_ble_eq_true rfl), (Nat.le_of_ble_eq_true rfl)⟩) ?_ (fun _ _ _ _ h _ => h.elim)
  · intro E9 ce9 q9 u9 H1 locs1 hpx G hce hcv hcl
    obtain ⟨rfl, hfr⟩ := hpx
    refine g_catch C0 hT9 [] [] (0, 8, 11, 57) rfl (fun z hz => by cases hz) rfl (by decide) mk_L_57 mca_NSE hce hcv hcl ?_
    refine lv_astore_n (lv' := [(2, .ref q9), (0, .ref sc), (1, .ref out)]) hx hb dL_refused_11 rfl hl (by decide) rfl (fun ls hl => ?_)
    refine lv_iconst (v := 1) hx hb dL_refused_12 (by decide) ?_
    exact g_iret C0 G hr dL_refused_13 (Nat.le_of_ble_eq_true rfl) (Nat.le_of_ble_eq_true rfl) (by exact ⟨rfl, (by rw [hfr]; exact fun _ _ _ h => h)⟩)
set_option maxRecDepth 100000 in
theorem k_L_now {l : Launch} (hfl : l.stackTraces = false) {D : va_G} {cy : Nat → ClassId} {f : Hf} {sz : Nat} {sc m0 m1 lg sv tx r0 r1 : Nat} {ea ra kr : Int32} {ln lst len : Nat} {out : Nat} (wh : Int32) (h_sc : f sc = some (.inr (10, [.ref m0, .ref m1, .ref lg, .ref sv, .ref tx, .ref r0, .ref r1, .int ea, .int ra, .int kr]))) (h_lg : f lg = some (.inr (3, [.ref ln, .ref lst, .ref len, .int 0, .int 0, .int 0, .int 0, .int 0, .int 0]))) : hMetH l yL_now cL_now 4 (some .int) [((0 : Nat), (9 : Nat), (12 : Nat), (13 : Nat)), ((0 : Nat), (9 : Nat), (15 : Nat), (21 : Nat))] { frames := 8, cells := 1, slots := 6, locals := 123 } D (hTy cy) f sz [.ref sc, .int wh, .ref out] (hQi (fun r u => ((r = 1 ∧ (¬ (0 ≤ wh ∧ wh ≤ 8))) ∨ (r = 2 ∧ (0 ≤ wh ∧ wh ≤ 8))) ∧ hFr f u sc) D f sz) hNo := by
  refine h_enterH (by decide) rfl hfl (Nat.le_of_ble_eq_true rfl) ?_
  intro p9 e9 s9 m9 b9 t9 c9 hsz hT9 C0 hr hnm G ls hl
  have hx := C0.1.1
  have hb := C0.1.2.1
  have hl : lv_has ls 4 [(0, .ref sc), (1, .int wh), (2, .ref out)] := hl
  refine lv_aload_n hx hb dL_now_0 rfl (lv_at hl 2 rfl) ?_
  refine lv_iconst (v := 0) hx hb dL_now_1 (by decide) ?_
  refine lv_aload_n hx hb dL_now_2 rfl (lv_at hl 0 rfl) ?_
  refine lv_iload_n hx hb dL_now_3 rfl (lv_at hl 1 rfl) ?_
  refine g_cI C0 G (g_runV C0 G (rest := [.int 0, .ref out]) (k_X8_now hfl wh h_sc h_lg) h_sc rfl hY_X8_now mm_L_62 mi_X8_now ml_X8_now ⟨(Nat.le_of_ble_eq_true rfl), (Nat.le_of_ble_eq_true rfl)⟩ rfl hl.1 rfl (Nat.le_of_ble_eq_true rfl) dL_now_4 ⟨(Nat.le_of_ble_eq_true rfl), (Nat.le_of_ble_eq_true rfl)⟩) ?_ (fun _ _ _ _ h _ => h.elim)
  · intro E9 ce9 q9 u9 H1 locs1 hpx G hce hcv hcl
    rcases hpx with ⟨⟨rfl, hP⟩ | ⟨rfl, hP⟩, hfr⟩
    · refine g_catch C0 hT9 [] [(0, 9, 15, 21)] (0, 9, 12, 13) rfl (fun z hz => by cases hz) rfl (by decide) mk_L_13 mca_IAE hce hcv hcl ?_
      refine lv_astore_n (lv' := [(3, .ref q9), (0, .ref sc), (1, .int wh), (2, .ref out)]) hx hb dL_now_12 rfl hl (by decide) rfl (fun ls hl => ?_)
      refine lv_iconst (v := 1) hx hb dL_now_13 (by decide) ?_
      exact g_iret C0 G hr dL_now_14 (Nat.le_of_ble_eq_true rfl) (Nat.le_of_ble_eq_true rfl) (by exact ⟨Or.inl ⟨rfl, hP⟩, hfr⟩)
    · refine g_catch C0 hT9 [(0, 9, 12, 13)] [] (0, 9, 15, 21) rfl (fun z hz => by simp only [List.mem_cons, List.not_mem_nil, or_false] at hz; subst hz; exact ⟨by decide, _, mk_L_13, by decide⟩) rfl (by decide) mk_L_21 mca_ISE hce hcv hcl ?_
      refine lv_astore_n (lv' := [(3, .ref q9), (0, .ref sc), (1, .int wh), (2, .ref out)]) hx hb dL_now_15 rfl hl (by decide) rfl (fun ls hl => ?_)
      refine lv_iconst (v := 2) hx hb dL_now_16 (by decide) ?_
      exact g_iret C0 G hr dL_now_17 (Nat.le_of_ble_eq_true rfl) (Nat.le_of_ble_eq_true rfl) (by exact ⟨Or.inr ⟨rfl, hP⟩, hfr⟩)
set_option maxRecDepth 100000 in
theorem k_L_innings {l : Launch} (hfl : l.stackTraces = false) {D : va_G} {cy : Nat → ClassId} {f : Hf} {sz : Nat} {sc m0 m1 lg sv tx r0 r1 : Nat} {ea ra kr : Int32} {al : Nat} {out : Nat} (inn wh : Int32) (h_sc : f sc = some (.inr (10, [.ref m0, .ref m1, .ref lg, .ref sv, .ref tx, .ref r0, .ref r1, .int ea, .int ra, .int kr]))) (h_m0 : f m0 = some (.inr (4, [.ref al, .int 0, .int 0, .int 0, .int 0, .int 0]))) : hMetH l yL_innings cL_innings 5 (some .int) [((0 : Nat), (10 : Nat), (13 : Nat), (19 : Nat)), ((0 : Nat), (10 : Nat), (17 : Nat), (13 : Nat))] { frames := 8, cells := 1, slots := 6, locals := 125 } D (hTy cy) f sz [.ref sc, .int inn, .int wh, .ref out] (hQi (fun r u => r = 1 ∧ hFr f u sc) D f sz) hNo := by
  refine h_enterH (by decide) rfl hfl (Nat.le_of_ble_eq_true rfl) ?_
  intro p9 e9 s9 m9 b9 t9 c9 hsz hT9 C0 hr hnm G ls hl
  have hx := C0.1.1
  have hb := C0.1.2.1
  have hl : lv_has ls 5 [(0, .ref sc), (1, .int inn), (2, .int wh), (3, .ref out)] := hl
  refine lv_aload_n hx hb dL_innings_0 rfl (lv_at hl 3 rfl) ?_
  refine lv_iconst (v := 0) hx hb dL_innings_1 (by decide) ?_
  refine lv_aload_n hx hb dL_innings_2 rfl (lv_at hl 0 rfl) ?_
  refine lv_iload_n hx hb dL_innings_3 rfl (lv_at hl 1 rfl) ?_
  refine lv_iload_n hx hb dL_innings_4 rfl (lv_at hl 2 rfl) ?_
  refine g_cI C0 G (g_runV C0 G (rest := [.int 0, .ref out]) (k_X8_innings hfl inn wh h_sc h_m0) h_sc rfl hY_X8_innings mm_L_65 mi_X8_innings ml_X8_innings ⟨(Nat.le_of_ble_eq_true rfl), (Nat.le_of_ble_eq_true rfl)⟩ rfl hl.1 rfl (Nat.le_of_ble_eq_true rfl) dL_innings_5 ⟨(Nat.le_of_ble_eq_true rfl), (Nat.le_of_ble_eq_true rfl)⟩) ?_ (fun _ _ _ _ h _ => h.elim)
  · intro E9 ce9 q9 u9 H1 locs1 hpx G hce hcv hcl
    obtain ⟨rfl, hfr⟩ := hpx
    refine g_catch C0 hT9 [] [(0, 10, 17, 13)] (0, 10, 13, 19) rfl (fun z hz => by cases hz) rfl (by decide) mk_L_19 mca_IOB hce hcv hcl ?_
    refine lv_astore (lv' := [(4, .ref q9), (0, .ref sc), (1, .int inn), (2, .int wh), (3, .ref out)]) hx hb dL_innings_13 hl (by decide) rfl (fun ls hl => ?_)
    refine lv_iconst (v := 1) hx hb dL_innings_15 (by decide) ?_
    exact g_iret C0 G hr dL_innings_16 (Nat.le_of_ble_eq_true rfl) (Nat.le_of_ble_eq_true rfl) (by exact ⟨rfl, (by rw [hfr]; exact fun _ _ _ h => h)⟩)
set_option maxRecDepth 100000 in
theorem k_L_batter {l : Launch} (hfl : l.stackTraces = false) {D : va_G} {cy : Nat → ClassId} {f : Hf} {sz : Nat} {sc m0 m1 lg sv tx r0 r1 : Nat} {ea ra kr : Int32} {al : Nat} {out : Nat} (inn pl wh : Int32) (h_sc : f sc = some (.inr (10, [.ref m0, .ref m1, .ref lg, .ref sv, .ref tx, .ref r0, .ref r1, .int ea, .int ra, .int kr]))) (h_m0 : f m0 = some (.inr (4, [.ref al, .int 0, .int 0, .int 0, .int 0, .int 0]))) : hMetH l yL_batter cL_batter 6 (some .int) [((0 : Nat), (12 : Nat), (15 : Nat), (19 : Nat)), ((0 : Nat), (12 : Nat), (19 : Nat), (13 : Nat))] { frames := 8, cells := 1, slots := 6, locals := 127 } D (hTy cy) f sz [.ref sc, .int inn, .int pl, .int wh, .ref out] (hQi (fun r u => r = 1 ∧ hFr f u sc) D f sz) hNo := by
  refine h_enterH (by decide) rfl hfl (Nat.le_of_ble_eq_true rfl) ?_
  intro p9 e9 s9 m9 b9 t9 c9 hsz hT9 C0 hr hnm G ls hl
  have hx := C0.1.1
  have hb := C0.1.2.1
  have hl : lv_has ls 6 [(0, .ref sc), (1, .int inn), (2, .int pl), (3, .int wh), (4, .ref out)] := hl
  refine lv_aload hx hb dL_batter_0 (lv_at hl 4 rfl) ?_
  refine lv_iconst (v := 0) hx hb dL_batter_2 (by decide) ?_
  refine lv_aload_n hx hb dL_batter_3 rfl (lv_at hl 0 rfl) ?_
  refine lv_iload_n hx hb dL_batter_4 rfl (lv_at hl 1 rfl) ?_
  refine lv_iload_n hx hb dL_batter_5 rfl (lv_at hl 2 rfl) ?_
  refine lv_iload_n hx hb dL_batter_6 rfl (lv_at hl 3 rfl) ?_
  refine g_cI C0 G (g_runV C0 G (rest := [.int 0, .ref out]) (k_X8_batter hfl inn pl wh h_sc h_m0) h_sc rfl hY_X8_batter mm_L_69 mi_X8_batter ml_X8_batter ⟨(Nat.le_of_ble_eq_true rfl), (Nat.le_of_ble_eq_true rfl)⟩ rfl hl.1 rfl (Nat.le_of_ble_eq_true rfl) dL_batter_7 ⟨(Nat.le_of_ble_eq_true rfl), (Nat.le_of_ble_eq_true rfl)⟩) ?_ (fun _ _ _ _ h _ => h.elim)
  · intro E9 ce9 q9 u9 H1 locs1 hpx G hce hcv hcl
    obtain ⟨rfl, hfr⟩ := hpx
    refine g_catch C0 hT9 [] [(0, 12, 19, 13)] (0, 12, 15, 19) rfl (fun z hz => by cases hz) rfl (by decide) mk_L_19 mca_IOB hce hcv hcl ?_
    refine lv_astore (lv' := [(5, .ref q9), (0, .ref sc), (1, .int inn), (2, .int pl), (3, .int wh), (4, .ref out)]) hx hb dL_batter_15 hl (by decide) rfl (fun ls hl => ?_)
    refine lv_iconst (v := 1) hx hb dL_batter_17 (by decide) ?_
    exact g_iret C0 G hr dL_batter_18 (Nat.le_of_ble_eq_true rfl) (Nat.le_of_ble_eq_true rfl) (by exact ⟨rfl, (by rw [hfr]; exact fun _ _ _ h => h)⟩)
set_option maxRecDepth 100000 in
theorem k_L_bowler {l : Launch} (hfl : l.stackTraces = false) {D : va_G} {cy : Nat → ClassId} {f : Hf} {sz : Nat} {sc m0 m1 lg sv tx r0 r1 : Nat} {ea ra kr : Int32} {al : Nat} {out : Nat} (inn pl wh : Int32) (h_sc : f sc = some (.inr (10, [.ref m0, .ref m1, .ref lg, .ref sv, .ref tx, .ref r0, .ref r1, .int ea, .int ra, .int kr]))) (h_m0 : f m0 = some (.inr (4, [.ref al, .int 0, .int 0, .int 0, .int 0, .int 0]))) : hMetH l yL_bowler cL_bowler 6 (some .int) [((0 : Nat), (12 : Nat), (15 : Nat), (19 : Nat)), ((0 : Nat), (12 : Nat), (19 : Nat), (13 : Nat))] { frames := 8, cells := 1, slots := 6, locals := 127 } D (hTy cy) f sz [.ref sc, .int inn, .int pl, .int wh, .ref out] (hQi (fun r u => r = 1 ∧ hFr f u sc) D f sz) hNo := by
  refine h_enterH (by decide) rfl hfl (Nat.le_of_ble_eq_true rfl) ?_
  intro p9 e9 s9 m9 b9 t9 c9 hsz hT9 C0 hr hnm G ls hl
  have hx := C0.1.1
  have hb := C0.1.2.1
  have hl : lv_has ls 6 [(0, .ref sc), (1, .int inn), (2, .int pl), (3, .int wh), (4, .ref out)] := hl
  refine lv_aload hx hb dL_bowler_0 (lv_at hl 4 rfl) ?_
  refine lv_iconst (v := 0) hx hb dL_bowler_2 (by decide) ?_
  refine lv_aload_n hx hb dL_bowler_3 rfl (lv_at hl 0 rfl) ?_
  refine lv_iload_n hx hb dL_bowler_4 rfl (lv_at hl 1 rfl) ?_
  refine lv_iload_n hx hb dL_bowler_5 rfl (lv_at hl 2 rfl) ?_
  refine lv_iload_n hx hb dL_bowler_6 rfl (lv_at hl 3 rfl) ?_
  refine g_cI C0 G (g_runV C0 G (rest := [.int 0, .ref out]) (k_X8_bowler hfl inn pl wh h_sc h_m0) h_sc rfl hY_X8_bowler mm_L_72 mi_X8_bowler ml_X8_bowler ⟨(Nat.le_of_ble_eq_true rfl), (Nat.le_of_ble_eq_true rfl)⟩ rfl hl.1 rfl (Nat.le_of_ble_eq_true rfl) dL_bowler_7 ⟨(Nat.le_of_ble_eq_true rfl), (Nat.le_of_ble_eq_true rfl)⟩) ?_ (fun _ _ _ _ h _ => h.elim)
  · intro E9 ce9 q9 u9 H1 locs1 hpx G hce hcv hcl
    obtain ⟨rfl, hfr⟩ := hpx
    refine g_catch C0 hT9 [] [(0, 12, 19, 13)] (0, 12, 15, 19) rfl (fun z hz => by cases hz) rfl (by decide) mk_L_19 mca_IOB hce hcv hcl ?_
    refine lv_astore (lv' := [(5, .ref q9), (0, .ref sc), (1, .int inn), (2, .int pl), (3, .int wh), (4, .ref out)]) hx hb dL_bowler_15 hl (by decide) rfl (fun ls hl => ?_)
    refine lv_iconst (v := 1) hx hb dL_bowler_17 (by decide) ?_
    exact g_iret C0 G hr dL_bowler_18 (Nat.le_of_ble_eq_true rfl) (Nat.le_of_ble_eq_true rfl) (by exact ⟨rfl, (by rw [hfr]; exact fun _ _ _ h => h)⟩)
set_option maxRecDepth 100000 in
theorem k_L_partnership {l : Launch} (hfl : l.stackTraces = false) {D : va_G} {cy : Nat → ClassId} {f : Hf} {sz : Nat} {sc m0 m1 lg sv tx r0 r1 : Nat} {ea ra kr : Int32} {al : Nat} {out : Nat} (inn ix wh : Int32) (h_sc : f sc = some (.inr (10, [.ref m0, .ref m1, .ref lg, .ref sv, .ref tx, .ref r0, .ref r1, .int ea, .int ra, .int kr]))) (h_m0 : f m0 = some (.inr (4, [.ref al, .int 0, .int 0, .int 0, .int 0, .int 0]))) : hMetH l yL_partnership cL_partnership 6 (some .int) [((0 : Nat), (12 : Nat), (15 : Nat), (19 : Nat)), ((0 : Nat), (12 : Nat), (19 : Nat), (57 : Nat)), ((0 : Nat), (12 : Nat), (23 : Nat), (13 : Nat))] { frames := 8, cells := 1, slots := 6, locals := 126 } D (hTy cy) f sz [.ref sc, .int inn, .int ix, .int wh, .ref out] (hQi (fun r u => r = 1 ∧ hFr f u sc) D f sz) hNo := by
  refine h_enterH (by decide) rfl hfl (Nat.le_of_ble_eq_true rfl) ?_
  intro p9 e9 s9 m9 b9 t9 c9 hsz hT9 C0 hr hnm G ls hl
  have hx := C0.1.1
  have hb := C0.1.2.1
  have hl : lv_has ls 6 [(0, .ref sc), (1, .int inn), (2, .int ix), (3, .int wh), (4, .ref out)] := hl
  refine lv_aload hx hb dL_partnership_0 (lv_at hl 4 rfl) ?_
  refine lv_iconst (v := 0) hx hb dL_partnership_2 (by decide) ?_
  refine lv_aload_n hx hb dL_partnership_3 rfl (lv_at hl 0 rfl) ?_
  refine lv_iload_n hx hb dL_partnership_4 rfl (lv_at hl 1 rfl) ?_
  refine lv_iload_n hx hb dL_partnership_5 rfl (lv_at hl 2 rfl) ?_
  refine lv_iload_n hx hb dL_partnership_6 rfl (lv_at hl 3 rfl) ?_
  refine g_cI C0 G (g_runV C0 G (rest := [.int 0, .ref out]) (k_X8_partnership hfl inn ix wh h_sc h_m0) h_sc rfl hY_X8_partnership mm_L_75 mi_X8_partnership ml_X8_partnership ⟨(Nat.le_of_ble_eq_true rfl), (Nat.le_of_ble_eq_true rfl)⟩ rfl hl.1 rfl (Nat.le_of_ble_eq_true rfl) dL_partnership_7 ⟨(Nat.le_of_ble_eq_true rfl), (Nat.le_of_ble_eq_true rfl)⟩) ?_ (fun _ _ _ _ h _ => h.elim)
  · intro E9 ce9 q9 u9 H1 locs1 hpx G hce hcv hcl
    obtain ⟨rfl, hfr⟩ := hpx
    refine g_catch C0 hT9 [] [(0, 12, 19, 57), (0, 12, 23, 13)] (0, 12, 15, 19) rfl (fun z hz => by cases hz) rfl (by decide) mk_L_19 mca_IOB hce hcv hcl ?_
    refine lv_astore (lv' := [(5, .ref q9), (0, .ref sc), (1, .int inn), (2, .int ix), (3, .int wh), (4, .ref out)]) hx hb dL_partnership_15 hl (by decide) rfl (fun ls hl => ?_)
    refine lv_iconst (v := 1) hx hb dL_partnership_17 (by decide) ?_
    exact g_iret C0 G hr dL_partnership_18 (Nat.le_of_ble_eq_true rfl) (Nat.le_of_ble_eq_true rfl) (by exact ⟨rfl, (by rw [hfr]; exact fun _ _ _ h => h)⟩)
set_option maxRecDepth 100000 in
theorem k_L_fall {l : Launch} (hfl : l.stackTraces = false) {D : va_G} {cy : Nat → ClassId} {f : Hf} {sz : Nat} {sc m0 m1 lg sv tx r0 r1 : Nat} {ea ra kr : Int32} {al : Nat} {out : Nat} (inn ix wh : Int32) (h_sc : f sc = some (.inr (10, [.ref m0, .ref m1, .ref lg, .ref sv, .ref tx, .ref r0, .ref r1, .int ea, .int ra, .int kr]))) (h_m0 : f m0 = some (.inr (4, [.ref al, .int 0, .int 0, .int 0, .int 0, .int 0]))) : hMetH l yL_fall cL_fall 6 (some .int) [((0 : Nat), (12 : Nat), (15 : Nat), (19 : Nat)), ((0 : Nat), (12 : Nat), (19 : Nat), (57 : Nat)), ((0 : Nat), (12 : Nat), (23 : Nat), (13 : Nat))] { frames := 8, cells := 1, slots := 6, locals := 126 } D (hTy cy) f sz [.ref sc, .int inn, .int ix, .int wh, .ref out] (hQi (fun r u => r = 1 ∧ hFr f u sc) D f sz) hNo := by
  refine h_enterH (by decide) rfl hfl (Nat.le_of_ble_eq_true rfl) ?_
  intro p9 e9 s9 m9 b9 t9 c9 hsz hT9 C0 hr hnm G ls hl
  have hx := C0.1.1
  have hb := C0.1.2.1
  have hl : lv_has ls 6 [(0, .ref sc), (1, .int inn), (2, .int ix), (3, .int wh), (4, .ref out)] := hl
  refine lv_aload hx hb dL_fall_0 (lv_at hl 4 rfl) ?_
  refine lv_iconst (v := 0) hx hb dL_fall_2 (by decide) ?_
  refine lv_aload_n hx hb dL_fall_3 rfl (lv_at hl 0 rfl) ?_
  refine lv_iload_n hx hb dL_fall_4 rfl (lv_at hl 1 rfl) ?_
  refine lv_iload_n hx hb dL_fall_5 rfl (lv_at hl 2 rfl) ?_
  refine lv_iload_n hx hb dL_fall_6 rfl (lv_at hl 3 rfl) ?_
  refine g_cI C0 G (g_runV C0 G (rest := [.int 0, .ref out]) (k_X8_fall hfl inn ix wh h_sc h_m0) h_sc rfl hY_X8_fall mm_L_78 mi_X8_fall ml_X8_fall ⟨(Nat.le_of_ble_eq_true rfl), (Nat.le_of_ble_eq_true rfl)⟩ rfl hl.1 rfl (Nat.le_of_ble_eq_true rfl) dL_fall_7 ⟨(Nat.le_of_ble_eq_true rfl), (Nat.le_of_ble_eq_true rfl)⟩) ?_ (fun _ _ _ _ h _ => h.elim)
  · intro E9 ce9 q9 u9 H1 locs1 hpx G hce hcv hcl
    obtain ⟨rfl, hfr⟩ := hpx
    refine g_catch C0 hT9 [] [(0, 12, 19, 57), (0, 12, 23, 13)] (0, 12, 15, 19) rfl (fun z hz => by cases hz) rfl (by decide) mk_L_19 mca_IOB hce hcv hcl ?_
    refine lv_astore (lv' := [(5, .ref q9), (0, .ref sc), (1, .int inn), (2, .int ix), (3, .int wh), (4, .ref out)]) hx hb dL_fall_15 hl (by decide) rfl (fun ls hl => ?_)
    refine lv_iconst (v := 1) hx hb dL_fall_17 (by decide) ?_
    exact g_iret C0 G hr dL_fall_18 (Nat.le_of_ble_eq_true rfl) (Nat.le_of_ble_eq_true rfl) (by exact ⟨rfl, (by rw [hfr]; exact fun _ _ _ h => h)⟩)
set_option maxRecDepth 100000 in
theorem k_L_needed {l : Launch} (hfl : l.stackTraces = false) {D : va_G} {cy : Nat → ClassId} {f : Hf} {sz : Nat} {sc m0 m1 lg sv tx r0 r1 : Nat} {ea ra kr : Int32} {ln lst len : Nat} {out : Nat} (tg : Int32) (h_sc : f sc = some (.inr (10, [.ref m0, .ref m1, .ref lg, .ref sv, .ref tx, .ref r0, .ref r1, .int ea, .int ra, .int kr]))) (h_lg : f lg = some (.inr (3, [.ref ln, .ref lst, .ref len, .int 0, .int 0, .int 0, .int 0, .int 0, .int 0]))) (hb_tg : tg = 0 ∨ tg = 1) : hMetH l yL_needed cL_needed 4 (some .int) [((0 : Nat), (9 : Nat), (12 : Nat), (21 : Nat)), ((0 : Nat), (9 : Nat), (15 : Nat), (57 : Nat))] { frames := 8, cells := 1, slots := 6, locals := 124 } D (hTy cy) f sz [.ref sc, .int tg, .ref out] (hQi (fun r u => r = 1 ∧ hFr f u sc) D f sz) hNo := by
  refine h_enterH (by decide) rfl hfl (Nat.le_of_ble_eq_true rfl) ?_
  intro p9 e9 s9 m9 b9 t9 c9 hsz hT9 C0 hr hnm G ls hl
  have hx := C0.1.1
  have hb := C0.1.2.1
  have hl : lv_has ls 4 [(0, .ref sc), (1, .int tg), (2, .ref out)] := hl
  refine lv_aload_n hx hb dL_needed_0 rfl (lv_at hl 2 rfl) ?_
  refine lv_iconst (v := 0) hx hb dL_needed_1 (by decide) ?_
  refine lv_aload_n hx hb dL_needed_2 rfl (lv_at hl 0 rfl) ?_
  refine lv_iload_n hx hb dL_needed_3 rfl (lv_at hl 1 rfl) ?_
  refine g_cI C0 G (g_runV C0 G (rest := [.int 0, .ref out]) (k_X8_needed hfl tg h_sc h_lg hb_tg) h_sc rfl hY_X8_needed mm_L_81 mi_X8_needed ml_X8_needed ⟨(Nat.le_of_ble_eq_true rfl), (Nat.le_of_ble_eq_true rfl)⟩ rfl hl.1 rfl (Nat.le_of_ble_eq_true rfl) dL_needed_4 ⟨(Nat.le_of_ble_eq_true rfl), (Nat.le_of_ble_eq_true rfl)⟩) ?_ (fun _ _ _ _ h _ => h.elim)
  · intro E9 ce9 q9 u9 H1 locs1 hpx G hce hcv hcl
    obtain ⟨rfl, hfr⟩ := hpx
    refine g_catch C0 hT9 [] [(0, 9, 15, 57)] (0, 9, 12, 21) rfl (fun z hz => by cases hz) rfl (by decide) mk_L_21 mca_ISE hce hcv hcl ?_
    refine lv_astore_n (lv' := [(3, .ref q9), (0, .ref sc), (1, .int tg), (2, .ref out)]) hx hb dL_needed_12 rfl hl (by decide) rfl (fun ls hl => ?_)
    refine lv_iconst (v := 1) hx hb dL_needed_13 (by decide) ?_
    exact g_iret C0 G hr dL_needed_14 (Nat.le_of_ble_eq_true rfl) (Nat.le_of_ble_eq_true rfl) (by exact ⟨rfl, hfr⟩)
set_option maxRecDepth 100000 in
theorem k_L_runRate {l : Launch} (hfl : l.stackTraces = false) {D : va_G} {cy : Nat → ClassId} {f : Hf} {sz : Nat} {sc m0 m1 lg sv tx r0 r1 : Nat} {ea ra kr : Int32} {al : Nat} {out : Nat} (inn : Int32) (h_sc : f sc = some (.inr (10, [.ref m0, .ref m1, .ref lg, .ref sv, .ref tx, .ref r0, .ref r1, .int ea, .int ra, .int kr]))) (h_m0 : f m0 = some (.inr (4, [.ref al, .int 0, .int 0, .int 0, .int 0, .int 0]))) : hMetH l yL_runRate cL_runRate 4 (some .int) [((0 : Nat), (8 : Nat), (11 : Nat), (19 : Nat)), ((0 : Nat), (8 : Nat), (14 : Nat), (89 : Nat))] { frames := 8, cells := 1, slots := 6, locals := 125 } D (hTy cy) f sz [.ref sc, .int inn, .ref out] (hQi (fun r u => r = 1 ∧ hFr f u sc) D f sz) hNo := by
  refine h_enterH (by decide) rfl hfl (Nat.le_of_ble_eq_true rfl) ?_
  intro p9 e9 s9 m9 b9 t9 c9 hsz hT9 C0 hr hnm G ls hl
  have hx := C0.1.1
  have hb := C0.1.2.1
  have hl : lv_has ls 4 [(0, .ref sc), (1, .int inn), (2, .ref out)] := hl
  refine lv_aload_n hx hb dL_runRate_0 rfl (lv_at hl 2 rfl) ?_
  refine lv_iconst (v := 0) hx hb dL_runRate_1 (by decide) ?_
  refine lv_aload_n hx hb dL_runRate_2 rfl (lv_at hl 0 rfl) ?_
  refine lv_iload_n hx hb dL_runRate_3 rfl (lv_at hl 1 rfl) ?_
  refine g_cD C0 G (g_runV C0 G (rest := [.int 0, .ref out]) (k_X8_runRate hfl inn h_sc h_m0) h_sc rfl hY_X8_runRate mm_L_85 mi_X8_runRate ml_X8_runRate ⟨(Nat.le_of_ble_eq_true rfl), (Nat.le_of_ble_eq_true rfl)⟩ rfl hl.1 rfl (Nat.le_of_ble_eq_true rfl) dL_runRate_4 ⟨(Nat.le_of_ble_eq_true rfl), (Nat.le_of_ble_eq_true rfl)⟩) ?_ (fun _ _ _ _ h _ => h.elim)
  · intro E9 ce9 q9 u9 H1 locs1 hpx G hce hcv hcl
    obtain ⟨rfl, hfr⟩ := hpx
    refine g_catch C0 hT9 [] [(0, 8, 14, 89)] (0, 8, 11, 19) rfl (fun z hz => by cases hz) rfl (by decide) mk_L_19 mca_IOB hce hcv hcl ?_
    refine lv_astore_n (lv' := [(3, .ref q9), (0, .ref sc), (1, .int inn), (2, .ref out)]) hx hb dL_runRate_11 rfl hl (by decide) rfl (fun ls hl => ?_)
    refine lv_iconst (v := 1) hx hb dL_runRate_12 (by decide) ?_
    exact g_iret C0 G hr dL_runRate_13 (Nat.le_of_ble_eq_true rfl) (Nat.le_of_ble_eq_true rfl) (by exact ⟨rfl, (by rw [hfr]; exact fun _ _ _ h => h)⟩)
set_option maxRecDepth 100000 in
theorem k_L_strikeRate {l : Launch} (hfl : l.stackTraces = false) {D : va_G} {cy : Nat → ClassId} {f : Hf} {sz : Nat} {sc m0 m1 lg sv tx r0 r1 : Nat} {ea ra kr : Int32} {al : Nat} {out : Nat} (inn pl : Int32) (h_sc : f sc = some (.inr (10, [.ref m0, .ref m1, .ref lg, .ref sv, .ref tx, .ref r0, .ref r1, .int ea, .int ra, .int kr]))) (h_m0 : f m0 = some (.inr (4, [.ref al, .int 0, .int 0, .int 0, .int 0, .int 0]))) : hMetH l yL_strikeRate cL_strikeRate 5 (some .int) [((0 : Nat), (10 : Nat), (13 : Nat), (19 : Nat)), ((0 : Nat), (10 : Nat), (17 : Nat), (89 : Nat))] { frames := 8, cells := 1, slots := 6, locals := 128 } D (hTy cy) f sz [.ref sc, .int inn, .int pl, .ref out] (hQi (fun r u => r = 1 ∧ hFr f u sc) D f sz) hNo := by
  refine h_enterH (by decide) rfl hfl (Nat.le_of_ble_eq_true rfl) ?_
  intro p9 e9 s9 m9 b9 t9 c9 hsz hT9 C0 hr hnm G ls hl
  have hx := C0.1.1
  have hb := C0.1.2.1
  have hl : lv_has ls 5 [(0, .ref sc), (1, .int inn), (2, .int pl), (3, .ref out)] := hl
  refine lv_aload_n hx hb dL_strikeRate_0 rfl (lv_at hl 3 rfl) ?_
  refine lv_iconst (v := 0) hx hb dL_strikeRate_1 (by decide) ?_
  refine lv_aload_n hx hb dL_strikeRate_2 rfl (lv_at hl 0 rfl) ?_
  refine lv_iload_n hx hb dL_strikeRate_3 rfl (lv_at hl 1 rfl) ?_
  refine lv_iload_n hx hb dL_strikeRate_4 rfl (lv_at hl 2 rfl) ?_
  refine g_cF C0 G (g_runV C0 G (rest := [.int 0, .ref out]) (k_X8_strikeRate hfl inn pl h_sc h_m0) h_sc rfl hY_X8_strikeRate mm_L_91 mi_X8_strikeRate ml_X8_strikeRate ⟨(Nat.le_of_ble_eq_true rfl), (Nat.le_of_ble_eq_true rfl)⟩ rfl hl.1 rfl (Nat.le_of_ble_eq_true rfl) dL_strikeRate_5 ⟨(Nat.le_of_ble_eq_true rfl), (Nat.le_of_ble_eq_true rfl)⟩) ?_ (fun _ _ _ _ h _ => h.elim)
  · intro E9 ce9 q9 u9 H1 locs1 hpx G hce hcv hcl
    obtain ⟨rfl, hfr⟩ := hpx
    refine g_catch C0 hT9 [] [(0, 10, 17, 89)] (0, 10, 13, 19) rfl (fun z hz => by cases hz) rfl (by decide) mk_L_19 mca_IOB hce hcv hcl ?_
    refine lv_astore (lv' := [(4, .ref q9), (0, .ref sc), (1, .int inn), (2, .int pl), (3, .ref out)]) hx hb dL_strikeRate_13 hl (by decide) rfl (fun ls hl => ?_)
    refine lv_iconst (v := 1) hx hb dL_strikeRate_15 (by decide) ?_
    exact g_iret C0 G hr dL_strikeRate_16 (Nat.le_of_ble_eq_true rfl) (Nat.le_of_ble_eq_true rfl) (by exact ⟨rfl, (by rw [hfr]; exact fun _ _ _ h => h)⟩)
set_option maxRecDepth 100000 in
theorem k_L_storeOvers {l : Launch} (hfl : l.stackTraces = false) {D : va_G} {cy : Nat → ClassId} {f : Hf} {sz : Nat} {sc m0 m1 lg sv tx r0 r1 : Nat} {ea ra kr : Int32} {al : Nat} {out : Nat} (row inn xa : Int32) (h_sc : f sc = some (.inr (10, [.ref m0, .ref m1, .ref lg, .ref sv, .ref tx, .ref r0, .ref r1, .int ea, .int ra, .int kr]))) (h_m0 : f m0 = some (.inr (4, [.ref al, .int 0, .int 0, .int 0, .int 0, .int 0]))) (hb_xa : xa = 0 ∨ xa = 1) : hMetH l yL_storeOvers cL_storeOvers 6 (some .int) [((0 : Nat), (12 : Nat), (15 : Nat), (19 : Nat))] { frames := 8, cells := 2, slots := 12, locals := 126 } D (hTy cy) f sz [.ref sc, .int row, .int inn, .int xa, .ref out] (hQi (fun r u => r = 1 ∧ hFr f u sc) D f sz) hNo := by
  refine h_enterH (by decide) rfl hfl (Nat.le_of_ble_eq_true rfl) ?_
  intro p9 e9 s9 m9 b9 t9 c9 hsz hT9 C0 hr hnm G ls hl
  have hx := C0.1.1
  have hb := C0.1.2.1
  have hl : lv_has ls 6 [(0, .ref sc), (1, .int row), (2, .int inn), (3, .int xa), (4, .ref out)] := hl
  refine lv_aload hx hb dL_storeOvers_0 (lv_at hl 4 rfl) ?_
  refine lv_iconst (v := 0) hx hb dL_storeOvers_2 (by decide) ?_
  refine lv_aload_n hx hb dL_storeOvers_3 rfl (lv_at hl 0 rfl) ?_
  refine lv_iload_n hx hb dL_storeOvers_4 rfl (lv_at hl 1 rfl) ?_
  refine lv_iload_n hx hb dL_storeOvers_5 rfl (lv_at hl 2 rfl) ?_
  refine lv_iload_n hx hb dL_storeOvers_6 rfl (lv_at hl 3 rfl) ?_
  refine g_cI C0 G (g_runV C0 G (rest := [.int 0, .ref out]) (k_X8_storeOvers hfl row inn xa h_sc h_m0 hb_xa) h_sc rfl hY_X8_storeOvers mm_L_95 mi_X8_storeOvers ml_X8_storeOvers ⟨(Nat.le_of_ble_eq_true rfl), (Nat.le_of_ble_eq_true rfl)⟩ rfl hl.1 rfl (Nat.le_of_ble_eq_true rfl) dL_storeOvers_7 ⟨(Nat.le_of_ble_eq_true rfl), (Nat.le_of_ble_eq_true rfl)⟩) ?_ (fun _ _ _ _ h _ => h.elim)
  · intro E9 ce9 q9 u9 H1 locs1 hpx G hce hcv hcl
    obtain ⟨rfl, hfr⟩ := hpx
    refine g_catch C0 hT9 [] [] (0, 12, 15, 19) rfl (fun z hz => by cases hz) rfl (by decide) mk_L_19 mca_IOB hce hcv hcl ?_
    refine lv_astore (lv' := [(5, .ref q9), (0, .ref sc), (1, .int row), (2, .int inn), (3, .int xa), (4, .ref out)]) hx hb dL_storeOvers_15 hl (by decide) rfl (fun ls hl => ?_)
    refine lv_iconst (v := 1) hx hb dL_storeOvers_17 (by decide) ?_
    exact g_iret C0 G hr dL_storeOvers_18 (Nat.le_of_ble_eq_true rfl) (Nat.le_of_ble_eq_true rfl) (by exact ⟨rfl, (by rw [hfr]; exact fun _ _ _ h => h)⟩)
set_option maxRecDepth 100000 in
theorem k_L_copyOvers {l : Launch} (hfl : l.stackTraces = false) {D : va_G} {cy : Nat → ClassId} {f : Hf} {sz : Nat} {sc m0 m1 lg sv tx r0 r1 : Nat} {ea ra kr : Int32} {r0e : Nat} {r1e : Nat} {out : Nat} (row cnt : Int32) (h_sc : f sc = some (.inr (10, [.ref m0, .ref m1, .ref lg, .ref sv, .ref tx, .ref r0, .ref r1, .int ea, .int ra, .int kr]))) (h_r0 : f r0 = some (.inr (6, [.ref r0e, .int 0, .int 0, .int 0]))) (h_r1 : f r1 = some (.inr (6, [.ref r1e, .int 0, .int 0, .int 0]))) : hMetH l yL_copyOvers cL_copyOvers 5 (some .int) [((0 : Nat), (17 : Nat), (20 : Nat), (19 : Nat)), ((0 : Nat), (17 : Nat), (24 : Nat), (57 : Nat)), ((0 : Nat), (17 : Nat), (28 : Nat), (49 : Nat)), ((0 : Nat), (17 : Nat), (32 : Nat), (13 : Nat))] { frames := 8, cells := 2, slots := 12, locals := 126 } D (hTy cy) f sz [.ref sc, .int row, .int cnt, .ref out] (hQi (fun r u => ((r = 1 ∧ (¬ (0 ≤ row ∧ row ≤ 1))) ∨ (r = 2 ∧ (0 ≤ row ∧ row ≤ 1))) ∧ hFr f u sc) D f sz) hNo := by
  refine h_enterH (by decide) rfl hfl (Nat.le_of_ble_eq_true rfl) ?_
  intro p9 e9 s9 m9 b9 t9 c9 hsz hT9 C0 hr hnm G ls hl
  have hx := C0.1.1
  have hb := C0.1.2.1
  have hl : lv_has ls 5 [(0, .ref sc), (1, .int row), (2, .int cnt), (3, .ref out)] := hl
  refine lv_aload_n hx hb dL_copyOvers_0 rfl (lv_at hl 3 rfl) ?_
  refine lv_iconst (v := 0) hx hb dL_copyOvers_1 (by decide) ?_
  refine lv_aload_n hx hb dL_copyOvers_2 rfl (lv_at hl 0 rfl) ?_
  refine lv_iload_n hx hb dL_copyOvers_3 rfl (lv_at hl 1 rfl) ?_
  refine lv_iload_n hx hb dL_copyOvers_4 rfl (lv_at hl 2 rfl) ?_
  refine g_cI C0 G (g_runV C0 G (rest := [.int 0, .ref out]) (k_X8_copyOvers hfl row cnt h_sc h_r0 h_r1) h_sc rfl hY_X8_copyOvers mm_L_98 mi_X8_copyOvers ml_X8_copyOvers ⟨(Nat.le_of_ble_eq_true rfl), (Nat.le_of_ble_eq_true rfl)⟩ rfl hl.1 rfl (Nat.le_of_ble_eq_true rfl) dL_copyOvers_5 ⟨(Nat.le_of_ble_eq_true rfl), (Nat.le_of_ble_eq_true rfl)⟩) ?_ (fun _ _ _ _ h _ => h.elim)
  · intro E9 ce9 q9 u9 H1 locs1 hpx G hce hcv hcl
    rcases hpx with ⟨⟨rfl, hP⟩ | ⟨rfl, hP⟩, hfr⟩
    · refine g_catch C0 hT9 [] [(0, 17, 24, 57), (0, 17, 28, 49), (0, 17, 32, 13)] (0, 17, 20, 19) rfl (fun z hz => by cases hz) rfl (by decide) mk_L_19 mca_IOB hce hcv hcl ?_
      refine lv_astore (lv' := [(4, .ref q9), (0, .ref sc), (1, .int row), (2, .int cnt), (3, .ref out)]) hx hb dL_copyOvers_20 hl (by decide) rfl (fun ls hl => ?_)
      refine lv_iconst (v := 1) hx hb dL_copyOvers_22 (by decide) ?_
      exact g_iret C0 G hr dL_copyOvers_23 (Nat.le_of_ble_eq_true rfl) (Nat.le_of_ble_eq_true rfl) (by exact ⟨Or.inl ⟨rfl, hP⟩, (by rw [hfr]; exact fun _ _ _ h => h)⟩)
    · refine g_catch C0 hT9 [(0, 17, 20, 19)] [(0, 17, 28, 49), (0, 17, 32, 13)] (0, 17, 24, 57) rfl (fun z hz => by simp only [List.mem_cons, List.not_mem_nil, or_false] at hz; subst hz; exact ⟨by decide, _, mk_L_19, by decide⟩) rfl (by decide) mk_L_57 mca_NSE hce hcv hcl ?_
      refine lv_astore (lv' := [(4, .ref q9), (0, .ref sc), (1, .int row), (2, .int cnt), (3, .ref out)]) hx hb dL_copyOvers_24 hl (by decide) rfl (fun ls hl => ?_)
      refine lv_iconst (v := 2) hx hb dL_copyOvers_26 (by decide) ?_
      exact g_iret C0 G hr dL_copyOvers_27 (Nat.le_of_ble_eq_true rfl) (Nat.le_of_ble_eq_true rfl) (by exact ⟨Or.inr ⟨rfl, hP⟩, (by rw [hfr]; exact fun _ _ _ h => h)⟩)
set_option maxRecDepth 100000 in
theorem k_L_storedOvers {l : Launch} (hfl : l.stackTraces = false) {D : va_G} {cy : Nat → ClassId} {f : Hf} {sz : Nat} {sc m0 m1 lg sv tx r0 r1 : Nat} {ea ra kr : Int32} {r0e : Nat} {r1e : Nat} {out : Nat} (row ix : Int32) (h_sc : f sc = some (.inr (10, [.ref m0, .ref m1, .ref lg, .ref sv, .ref tx, .ref r0, .ref r1, .int ea, .int ra, .int kr]))) (h_r0 : f r0 = some (.inr (6, [.ref r0e, .int 0, .int 0, .int 0]))) (h_r1 : f r1 = some (.inr (6, [.ref r1e, .int 0, .int 0, .int 0]))) : hMetH l yL_storedOvers cL_storedOvers 5 (some .int) [((0 : Nat), (10 : Nat), (13 : Nat), (19 : Nat)), ((0 : Nat), (10 : Nat), (17 : Nat), (57 : Nat))] { frames := 8, cells := 2, slots := 12, locals := 124 } D (hTy cy) f sz [.ref sc, .int row, .int ix, .ref out] (hQi (fun r u => ((r = 1 ∧ (¬ (0 ≤ row ∧ row ≤ 1))) ∨ (r = 2 ∧ (0 ≤ row ∧ row ≤ 1))) ∧ hFr f u sc) D f sz) hNo := by
  refine h_enterH (by decide) rfl hfl (Nat.le_of_ble_eq_true rfl) ?_
  intro p9 e9 s9 m9 b9 t9 c9 hsz hT9 C0 hr hnm G ls hl
  have hx := C0.1.1
  have hb := C0.1.2.1
  have hl : lv_has ls 5 [(0, .ref sc), (1, .int row), (2, .int ix), (3, .ref out)] := hl
  refine lv_aload_n hx hb dL_storedOvers_0 rfl (lv_at hl 3 rfl) ?_
  refine lv_iconst (v := 0) hx hb dL_storedOvers_1 (by decide) ?_
  refine lv_aload_n hx hb dL_storedOvers_2 rfl (lv_at hl 0 rfl) ?_
  refine lv_iload_n hx hb dL_storedOvers_3 rfl (lv_at hl 1 rfl) ?_
  refine lv_iload_n hx hb dL_storedOvers_4 rfl (lv_at hl 2 rfl) ?_
  refine g_cF C0 G (g_runV C0 G (rest := [.int 0, .ref out]) (k_X8_storedOvers hfl row ix h_sc h_r0 h_r1) h_sc rfl hY_X8_storedOvers mm_L_102 mi_X8_storedOvers ml_X8_storedOvers ⟨(Nat.le_of_ble_eq_true rfl), (Nat.le_of_ble_eq_true rfl)⟩ rfl hl.1 rfl (Nat.le_of_ble_eq_true rfl) dL_storedOvers_5 ⟨(Nat.le_of_ble_eq_true rfl), (Nat.le_of_ble_eq_true rfl)⟩) ?_ (fun _ _ _ _ h _ => h.elim)
  · intro E9 ce9 q9 u9 H1 locs1 hpx G hce hcv hcl
    rcases hpx with ⟨⟨rfl, hP⟩ | ⟨rfl, hP⟩, hfr⟩
    · refine g_catch C0 hT9 [] [(0, 10, 17, 57)] (0, 10, 13, 19) rfl (fun z hz => by cases hz) rfl (by decide) mk_L_19 mca_IOB hce hcv hcl ?_
      refine lv_astore (lv' := [(4, .ref q9), (0, .ref sc), (1, .int row), (2, .int ix), (3, .ref out)]) hx hb dL_storedOvers_13 hl (by decide) rfl (fun ls hl => ?_)
      refine lv_iconst (v := 1) hx hb dL_storedOvers_15 (by decide) ?_
      exact g_iret C0 G hr dL_storedOvers_16 (Nat.le_of_ble_eq_true rfl) (Nat.le_of_ble_eq_true rfl) (by exact ⟨Or.inl ⟨rfl, hP⟩, (by rw [hfr]; exact fun _ _ _ h => h)⟩)
    · refine g_catch C0 hT9 [(0, 10, 13, 19)] [] (0, 10, 17, 57) rfl (fun z hz => by simp only [List.mem_cons, List.not_mem_nil, or_false] at hz; subst hz; exact ⟨by decide, _, mk_L_19, by decide⟩) rfl (by decide) mk_L_57 mca_NSE hce hcv hcl ?_
      refine lv_astore (lv' := [(4, .ref q9), (0, .ref sc), (1, .int row), (2, .int ix), (3, .ref out)]) hx hb dL_storedOvers_17 hl (by decide) rfl (fun ls hl => ?_)
      refine lv_iconst (v := 2) hx hb dL_storedOvers_19 (by decide) ?_
      exact g_iret C0 G hr dL_storedOvers_20 (Nat.le_of_ble_eq_true rfl) (Nat.le_of_ble_eq_true rfl) (by exact ⟨Or.inr ⟨rfl, hP⟩, (by rw [hfr]; exact fun _ _ _ h => h)⟩)
set_option maxRecDepth 100000 in
theorem k_L_undo {l : Launch} (hfl : l.stackTraces = false) {D : va_G} {cy : Nat → ClassId} {f : Hf} {sz : Nat} {sc m0 m1 lg sv tx r0 r1 : Nat} {ea ra kr : Int32} {ln lst len : Nat} {out : Nat} (h_sc : f sc = some (.inr (10, [.ref m0, .ref m1, .ref lg, .ref sv, .ref tx, .ref r0, .ref r1, .int ea, .int ra, .int kr]))) (h_lg : f lg = some (.inr (3, [.ref ln, .ref lst, .ref len, .int 0, .int 0, .int 0, .int 0, .int 0, .int 0]))) : hMetH l yL_undo cL_undo 3 (some .int) [((0 : Nat), (8 : Nat), (11 : Nat), (21 : Nat))] { frames := 7, cells := 1, slots := 6, locals := 102 } D (hTy cy) f sz [.ref sc, .ref out] (hQi (fun r u => r = 1 ∧ hFr f u sc) D f sz) hNo := by
  refine h_enterH (by decide) rfl hfl (Nat.le_of_ble_eq_true rfl) ?_
  intro p9 e9 s9 m9 b9 t9 c9 hsz hT9 C0 hr hnm G ls hl
  have hx := C0.1.1
  have hb := C0.1.2.1
  have hl : lv_has ls 3 [(0, .ref sc), (1, .ref out)] := hl
  refine lv_aload_n hx hb dL_undo_0 rfl (lv_at hl 1 rfl) ?_
  refine lv_iconst (v := 0) hx hb dL_undo_1 (by decide) ?_
  refine lv_aload_n hx hb dL_undo_2 rfl (lv_at hl 0 rfl) ?_
  refine g_cI C0 G (g_runV C0 G (rest := [.int 0, .ref out]) (k_X8_undo hfl  h_sc h_lg) h_sc rfl hY_X8_undo mm_L_105 mi_X8_undo ml_X8_undo ⟨(Nat.le_of_ble_eq_true rfl), (Nat.le_of_ble_eq_true rfl)⟩ rfl hl.1 rfl (Nat.le_of_ble_eq_true rfl) dL_undo_3 ⟨(Nat.le_of_ble_eq_true rfl), (Nat.le_of_ble_eq_true rfl)⟩) ?_ (fun _ _ _ _ h _ => h.elim)
  · intro E9 ce9 q9 u9 H1 locs1 hpx G hce hcv hcl
    obtain ⟨rfl, hfr⟩ := hpx
    refine g_catch C0 hT9 [] [] (0, 8, 11, 21) rfl (fun z hz => by cases hz) rfl (by decide) mk_L_21 mca_ISE hce hcv hcl ?_
    refine lv_astore_n (lv' := [(2, .ref q9), (0, .ref sc), (1, .ref out)]) hx hb dL_undo_11 rfl hl (by decide) rfl (fun ls hl => ?_)
    refine lv_iconst (v := 1) hx hb dL_undo_12 (by decide) ?_
    exact g_iret C0 G hr dL_undo_13 (Nat.le_of_ble_eq_true rfl) (Nat.le_of_ble_eq_true rfl) (by exact ⟨rfl, hfr⟩)
set_option maxRecDepth 100000 in
theorem k_L_isReplayed {l : Launch} (hfl : l.stackTraces = false) {D : va_G} {cy : Nat → ClassId} {f : Hf} {sz : Nat} {sc m0 m1 lg sv tx r0 r1 : Nat} {ea ra kr : Int32} {ln lst len : Nat} {out : Nat} (h_sc : f sc = some (.inr (10, [.ref m0, .ref m1, .ref lg, .ref sv, .ref tx, .ref r0, .ref r1, .int ea, .int ra, .int kr]))) (h_lg : f lg = some (.inr (3, [.ref ln, .ref lst, .ref len, .int 0, .int 0, .int 0, .int 0, .int 0, .int 0]))) : hMetH l yL_isReplayed cL_isReplayed 3 (some .int) [((0 : Nat), (15 : Nat), (18 : Nat), (21 : Nat))] { frames := 8, cells := 1, slots := 6, locals := 122 } D (hTy cy) f sz [.ref sc, .ref out] (hQi (fun r u => r = 1 ∧ hFr f u sc) D f sz) hNo := by
  refine h_enterH (by decide) rfl hfl (Nat.le_of_ble_eq_true rfl) ?_
  intro p9 e9 s9 m9 b9 t9 c9 hsz hT9 C0 hr hnm G ls hl
  have hx := C0.1.1
  have hb := C0.1.2.1
  have hl : lv_has ls 3 [(0, .ref sc), (1, .ref out)] := hl
  refine lv_aload_n hx hb dL_isReplayed_0 rfl (lv_at hl 1 rfl) ?_
  refine lv_iconst (v := 0) hx hb dL_isReplayed_1 (by decide) ?_
  refine lv_aload_n hx hb dL_isReplayed_2 rfl (lv_at hl 0 rfl) ?_
  refine g_cI C0 G (g_runV C0 G (rest := [.int 0, .ref out]) (k_X8_isReplayed hfl  h_sc h_lg) h_sc rfl hY_X8_isReplayed mm_L_108 mi_X8_isReplayed ml_X8_isReplayed ⟨(Nat.le_of_ble_eq_true rfl), (Nat.le_of_ble_eq_true rfl)⟩ rfl hl.1 rfl (Nat.le_of_ble_eq_true rfl) dL_isReplayed_3 ⟨(Nat.le_of_ble_eq_true rfl), (Nat.le_of_ble_eq_true rfl)⟩) ?_ (fun _ _ _ _ h _ => h.elim)
  · intro E9 ce9 q9 u9 H1 locs1 hpx G hce hcv hcl
    obtain ⟨rfl, hfr⟩ := hpx
    refine g_catch C0 hT9 [] [] (0, 15, 18, 21) rfl (fun z hz => by cases hz) rfl (by decide) mk_L_21 mca_ISE hce hcv hcl ?_
    refine lv_astore_n (lv' := [(2, .ref q9), (0, .ref sc), (1, .ref out)]) hx hb dL_isReplayed_18 rfl hl (by decide) rfl (fun ls hl => ?_)
    refine lv_iconst (v := 1) hx hb dL_isReplayed_19 (by decide) ?_
    exact g_iret C0 G hr dL_isReplayed_20 (Nat.le_of_ble_eq_true rfl) (Nat.le_of_ble_eq_true rfl) (by exact ⟨rfl, hfr⟩)
set_option maxRecDepth 100000 in
theorem k_L_snapshot {l : Launch} (hfl : l.stackTraces = false) {D : va_G} {cy : Nat → ClassId} {f : Hf} {sz : Nat} {sc m0 m1 lg sv tx r0 r1 : Nat} {ea ra kr : Int32} {ln lst len : Nat} {out : Nat} (h_sc : f sc = some (.inr (10, [.ref m0, .ref m1, .ref lg, .ref sv, .ref tx, .ref r0, .ref r1, .int ea, .int ra, .int kr]))) (h_lg : f lg = some (.inr (3, [.ref ln, .ref lst, .ref len, .int 0, .int 0, .int 0, .int 0, .int 0, .int 0]))) : hMetH l yL_snapshot cL_snapshot 3 (some .int) [((0 : Nat), (8 : Nat), (11 : Nat), (21 : Nat))] { frames := 8, cells := 1, slots := 6, locals := 122 } D (hTy cy) f sz [.ref sc, .ref out] (hQi (fun r u => r = 1 ∧ hFr f u sc) D f sz) hNo := by
  refine h_enterH (by decide) rfl hfl (Nat.le_of_ble_eq_true rfl) ?_
  intro p9 e9 s9 m9 b9 t9 c9 hsz hT9 C0 hr hnm G ls hl
  have hx := C0.1.1
  have hb := C0.1.2.1
  have hl : lv_has ls 3 [(0, .ref sc), (1, .ref out)] := hl
  refine lv_aload_n hx hb dL_snapshot_0 rfl (lv_at hl 1 rfl) ?_
  refine lv_iconst (v := 0) hx hb dL_snapshot_1 (by decide) ?_
  refine lv_aload_n hx hb dL_snapshot_2 rfl (lv_at hl 0 rfl) ?_
  refine g_cI C0 G (g_runV C0 G (rest := [.int 0, .ref out]) (k_X8_snapshot hfl  h_sc h_lg) h_sc rfl hY_X8_snapshot mm_L_112 mi_X8_snapshot ml_X8_snapshot ⟨(Nat.le_of_ble_eq_true rfl), (Nat.le_of_ble_eq_true rfl)⟩ rfl hl.1 rfl (Nat.le_of_ble_eq_true rfl) dL_snapshot_3 ⟨(Nat.le_of_ble_eq_true rfl), (Nat.le_of_ble_eq_true rfl)⟩) ?_ (fun _ _ _ _ h _ => h.elim)
  · intro E9 ce9 q9 u9 H1 locs1 hpx G hce hcv hcl
    obtain ⟨rfl, hfr⟩ := hpx
    refine g_catch C0 hT9 [] [] (0, 8, 11, 21) rfl (fun z hz => by cases hz) rfl (by decide) mk_L_21 mca_ISE hce hcv hcl ?_
    refine lv_astore_n (lv' := [(2, .ref q9), (0, .ref sc), (1, .ref out)]) hx hb dL_snapshot_11 rfl hl (by decide) rfl (fun ls hl => ?_)
    refine lv_iconst (v := 1) hx hb dL_snapshot_12 (by decide) ?_
    exact g_iret C0 G hr dL_snapshot_13 (Nat.le_of_ble_eq_true rfl) (Nat.le_of_ble_eq_true rfl) (by exact ⟨rfl, hfr⟩)
set_option maxRecDepth 100000 in
theorem k_L_restore {l : Launch} (hfl : l.stackTraces = false) {D : va_G} {cy : Nat → ClassId} {f : Hf} {sz : Nat} {sc m0 m1 lg sv tx r0 r1 : Nat} {ea ra kr : Int32} {sn sst sen : Nat} {out : Nat} (h_sc : f sc = some (.inr (10, [.ref m0, .ref m1, .ref lg, .ref sv, .ref tx, .ref r0, .ref r1, .int ea, .int ra, .int kr]))) (h_sv : f sv = some (.inr (3, [.ref sn, .ref sst, .ref sen, .int 0, .int 0, .int 0, .int 0, .int 0, .int 0]))) : hMetH l yL_restore cL_restore 3 (some .int) [((0 : Nat), (8 : Nat), (11 : Nat), (21 : Nat))] { frames := 7, cells := 1, slots := 6, locals := 102 } D (hTy cy) f sz [.ref sc, .ref out] (hQi (fun r u => r = 1 ∧ hFr f u sc) D f sz) hNo := by
  refine h_enterH (by decide) rfl hfl (Nat.le_of_ble_eq_true rfl) ?_
  intro p9 e9 s9 m9 b9 t9 c9 hsz hT9 C0 hr hnm G ls hl
  have hx := C0.1.1
  have hb := C0.1.2.1
  have hl : lv_has ls 3 [(0, .ref sc), (1, .ref out)] := hl
  refine lv_aload_n hx hb dL_restore_0 rfl (lv_at hl 1 rfl) ?_
  refine lv_iconst (v := 0) hx hb dL_restore_1 (by decide) ?_
  refine lv_aload_n hx hb dL_restore_2 rfl (lv_at hl 0 rfl) ?_
  refine g_cI C0 G (g_runV C0 G (rest := [.int 0, .ref out]) (k_X8_restore hfl  h_sc h_sv) h_sc rfl hY_X8_restore mm_L_115 mi_X8_restore ml_X8_restore ⟨(Nat.le_of_ble_eq_true rfl), (Nat.le_of_ble_eq_true rfl)⟩ rfl hl.1 rfl (Nat.le_of_ble_eq_true rfl) dL_restore_3 ⟨(Nat.le_of_ble_eq_true rfl), (Nat.le_of_ble_eq_true rfl)⟩) ?_ (fun _ _ _ _ h _ => h.elim)
  · intro E9 ce9 q9 u9 H1 locs1 hpx G hce hcv hcl
    obtain ⟨rfl, hfr⟩ := hpx
    refine g_catch C0 hT9 [] [] (0, 8, 11, 21) rfl (fun z hz => by cases hz) rfl (by decide) mk_L_21 mca_ISE hce hcv hcl ?_
    refine lv_astore_n (lv' := [(2, .ref q9), (0, .ref sc), (1, .ref out)]) hx hb dL_restore_11 rfl hl (by decide) rfl (fun ls hl => ?_)
    refine lv_iconst (v := 1) hx hb dL_restore_12 (by decide) ?_
    exact g_iret C0 G hr dL_restore_13 (Nat.le_of_ble_eq_true rfl) (Nat.le_of_ble_eq_true rfl) (by exact ⟨rfl, hfr⟩)
set_option maxRecDepth 100000 in
theorem k_L_append {l : Launch} (hfl : l.stackTraces = false) {D : va_G} {cy : Nat → ClassId} {f : Hf} {sz : Nat} {sc m0 m1 lg sv tx r0 r1 : Nat} {ea ra kr : Int32} {bf tn tp : Nat}  {out : Nat} {gl : Nat → Int64} (ch : Int32) (h_sc : f sc = some (.inr (10, [.ref m0, .ref m1, .ref lg, .ref sv, .ref tx, .ref r0, .ref r1, .int ea, .int ra, .int kr]))) (h_tx : f tx = some (.inr (9, [.ref bf, .ref tn, .ref tp, .int 0, .int 0]))) (h_bf : f bf = some (.inl (cy 1, 60, .inl (fun _ => 0)))) (h_out : f out = some (.inl (cy 5, 1, .inr (.inl gl)))) (oO : sc < out ∧ tx < out ∧ bf < out) : hMetH l yL_append cL_append 4 (some .int) [((0 : Nat), (9 : Nat), (12 : Nat), (13 : Nat)), ((0 : Nat), (9 : Nat), (15 : Nat), (49 : Nat))] { frames := 7, cells := 1, slots := 6, locals := 103 } D (hTy cy) f sz [.ref sc, .int ch, .ref out] (hQi (fun r u => (r = 0 ∧ (32 ≤ ch ∧ ch ≤ 126) ∧ u out = some (.inl (cy 5, 1, .inr (.inl (vp_updL gl 0 (1).toInt64)))) ∧ hFrL f u [tx, bf, out]) ∨ (r = 1 ∧ ¬ (32 ≤ ch ∧ ch ≤ 126) ∧ hFr f u sc)) D f sz) hNo := by
  refine h_enterH (by decide) rfl hfl (Nat.le_of_ble_eq_true rfl) ?_
  intro p9 e9 s9 m9 b9 t9 c9 hsz hT9 C0 hr hnm G ls hl
  have hx := C0.1.1
  have hb := C0.1.2.1
  have hl : lv_has ls 4 [(0, .ref sc), (1, .int ch), (2, .ref out)] := hl
  obtain ⟨oO0, oO1, oO2⟩ := oO
  refine lv_aload_n hx hb dL_append_0 rfl (lv_at hl 2 rfl) ?_
  refine lv_iconst (v := 0) hx hb dL_append_1 (by decide) ?_
  refine lv_aload_n hx hb dL_append_2 rfl (lv_at hl 0 rfl) ?_
  refine lv_iload_n hx hb dL_append_3 rfl (lv_at hl 1 rfl) ?_
  refine g_cI C0 G (g_runV C0 G (rest := [.int 0, .ref out]) (k_X8_append hfl ch h_sc h_tx h_bf) h_sc rfl hY_X8_append mm_L_45 mi_X8_append ml_X8_append ⟨(Nat.le_of_ble_eq_true rfl), (Nat.le_of_ble_eq_true rfl)⟩ rfl hl.1 rfl (Nat.le_of_ble_eq_true rfl) dL_append_4 ⟨(Nat.le_of_ble_eq_true rfl), (Nat.le_of_ble_eq_true rfl)⟩) ?_ ?_
  · intro E9 ce9 q9 u9 H1 locs1 hpx G hce hcv hcl
    obtain ⟨rfl, hP, hfr⟩ := hpx
    refine g_catch C0 hT9 [] [(0, 9, 15, 49)] (0, 9, 12, 13) rfl (fun z hz => by cases hz) rfl (by decide) mk_L_13 mca_IAE hce hcv hcl ?_
    refine lv_astore_n (lv' := [(3, .ref q9), (0, .ref sc), (1, .int ch), (2, .ref out)]) hx hb dL_append_12 rfl hl (by decide) rfl (fun ls hl => ?_)
    refine lv_iconst (v := 1) hx hb dL_append_13 (by decide) ?_
    exact g_iret C0 G hr dL_append_14 (Nat.le_of_ble_eq_true rfl) (Nat.le_of_ble_eq_true rfl) (by exact Or.inr ⟨rfl, hP, (by rw [hfr]; exact fun _ _ _ h => h)⟩)
  · intro r1 u2 H locs hp3 G
    obtain ⟨rfl, hP5, fr4⟩ := hp3
    refine lv_i2l (v := (1).toInt64) hx hb dL_append_7 rfl ?_
    have k6 : u2 out = some (.inl (cy 5, 1, .inr (.inl gl))) := fr4 _ _ (by simp only [List.mem_cons, List.not_mem_nil, or_false]; intro q; rcases q with q | q <;> exact absurd q (by omega)) h_out
    refine g_last C0 G k6 5 rfl (by unfold vp_in; decide) dL_append_8 (fun H locs f7 hf7 G => ?_)
    have k8 : f7 out = some (.inl (cy 5, 1, .inr (.inl (vp_updL gl 0 ((1).toInt64))))) := hus hf7
    refine lv_goto (tgt := 18) hx hb dL_append_9 (by decide) ?_
    refine lv_iconst (v := 0) hx hb dL_append_18 (by decide) ?_
    exact g_iret C0 G hr dL_append_19 (Nat.le_of_ble_eq_true rfl) (Nat.le_of_ble_eq_true rfl) (by exact Or.inl ⟨rfl, hP5, k8, fun a9 e9 h7 h8 => hup hf7 (fun q => h7 (by rw [q]; simp)) (fr4 _ _ (fun q => h7 (by simp only [List.mem_cons, List.not_mem_nil, or_false] at q ⊢; omega)) (h8))⟩)
set_option maxRecDepth 100000 in
theorem k_L_begin {l : Launch} (hfl : l.stackTraces = false) {D : va_G} {cy : Nat → ClassId} {f : Hf} {sz : Nat} {sc m0 m1 lg sv tx r0 r1 : Nat} {ea ra kr : Int32} {al ln lst len : Nat} {ex ovr each first number e1 e2 e3 e4 e5 e6 : Int32} {ga : Nat → Option Nat} {i0 i1 i2 i3 i4 i5 i6 i7 i8 i9 i10 i11 i12 : Nat} {v0 v1 v2 v3 v4 v5 v6 v7 v8 v9 v10 v11 v12 v13 v14 v15 v16 v17 : Int32} {g0 g1 g2 g3 g4 g5 : Nat → Int32}  {out : Nat} {gl : Nat → Int64} (a1 a2 a3 : Int32) (h_sc : f sc = some (.inr (10, [.ref m0, .ref m1, .ref lg, .ref sv, .ref tx, .ref r0, .ref r1, .int ea, .int ra, .int kr]))) (h_m0 : f m0 = some (.inr (4, [.ref al, .int ex, .int ovr, .int each, .int first, .int number]))) (h_lg : f lg = some (.inr (3, [.ref ln, .ref lst, .ref len, .int e1, .int e2, .int e3, .int e4, .int e5, .int e6]))) (h_al : f al = some (.inl (cy 3, 4, .inr (.inr (.inr (.inr ga)))))) (h_i0 : f i0 = some (.inr (2, [.ref i1, .ref i3, .ref i5, .ref i7, .ref i9, .ref i11, .int v0, .int v1, .int v2, .int v3, .int v4]))) (h_i1 : f i1 = some (.inr (8, [.int 8, .ref i2, .int v5]))) (h_i2 : f i2 = some (.inl (cy 0, 8, .inl g0))) (h_i3 : f i3 = some (.inr (8, [.int 6, .ref i4, .int v6]))) (h_i4 : f i4 = some (.inl (cy 0, 66, .inl g1))) (h_i5 : f i5 = some (.inr (8, [.int 7, .ref i6, .int v7]))) (h_i6 : f i6 = some (.inl (cy 0, 77, .inl g2))) (h_i7 : f i7 = some (.inr (8, [.int 8, .ref i8, .int v8]))) (h_i8 : f i8 = some (.inl (cy 0, 4104, .inl g3))) (h_i9 : f i9 = some (.inr (8, [.int 3, .ref i10, .int v9]))) (h_i10 : f i10 = some (.inl (cy 0, 33, .inl g4))) (h_i11 : f i11 = some (.inr (5, [.ref i12, .int v10, .int v11, .int v12, .int v13, .int v14, .int v15, .int v16, .int v17]))) (h_i12 : f i12 = some (.inl (cy 0, 20, .inl g5))) (h_out : f out = some (.inl (cy 5, 1, .inr (.inl gl)))) (hg0 : ga 0 = some i0) (oI : i0 < i1 ∧ i1 < i2 ∧ i2 < i3 ∧ i3 < i4 ∧ i4 < i5 ∧ i5 < i6 ∧ i6 < i7 ∧ i7 < i8 ∧ i8 < i9 ∧ i9 < i10 ∧ i10 < i11 ∧ i11 < i12) (oB : sc < m0 ∧ m0 < al ∧ al < i0 ∧ i12 < lg) (oO : sc < out ∧ lg < out ∧ m0 < out ∧ i0 < out ∧ i1 < out ∧ i2 < out ∧ i3 < out ∧ i4 < out ∧ i5 < out ∧ i6 < out ∧ i7 < out ∧ i8 < out ∧ i9 < out ∧ i10 < out ∧ i11 < out ∧ i12 < out) : hMetH l yL_begin cL_begin 6 (some .int) [((0 : Nat), (12 : Nat), (15 : Nat), (13 : Nat))] { frames := 7, cells := 1, slots := 6, locals := 114 } D (hTy cy) f sz [.ref sc, .int a1, .int a2, .int a3, .ref out] (hQi (fun r u => (r = 0 ∧ ((1 ≤ a1 ∧ a1 ≤ 20) ∧ (1 ≤ a2 ∧ a2 ≤ 2) ∧ (0 ≤ a3 ∧ a3 ≤ 1)) ∧ u out = some (.inl (cy 5, 1, .inr (.inl (vp_updL gl 0 ((a1 + 4) / 5).toInt64)))) ∧ hFrL f u [lg, m0, i0, i1, i2, i3, i4, i5, i6, i7, i8, i9, i10, i11, i12, out]) ∨ (r = 1 ∧ ¬ ((1 ≤ a1 ∧ a1 ≤ 20) ∧ (1 ≤ a2 ∧ a2 ≤ 2) ∧ (0 ≤ a3 ∧ a3 ≤ 1)) ∧ hFr f u sc)) D f sz) hNo := by
  refine h_enterH (by decide) rfl hfl (Nat.le_of_ble_eq_true rfl) ?_
  intro p9 e9 s9 m9 b9 t9 c9 hsz hT9 C0 hr hnm G ls hl
  have hx := C0.1.1
  have hb := C0.1.2.1
  have hl : lv_has ls 6 [(0, .ref sc), (1, .int a1), (2, .int a2), (3, .int a3), (4, .ref out)] := hl
  obtain ⟨oO0, oO1, oO2, oO3, oO4, oO5, oO6, oO7, oO8, oO9, oO10, oO11, oO12, oO13, oO14, oO15⟩ := oO
  refine lv_aload hx hb dL_begin_0 (lv_at hl 4 rfl) ?_
  refine lv_iconst (v := 0) hx hb dL_begin_2 (by decide) ?_
  refine lv_aload_n hx hb dL_begin_3 rfl (lv_at hl 0 rfl) ?_
  refine lv_iload_n hx hb dL_begin_4 rfl (lv_at hl 1 rfl) ?_
  refine lv_iload_n hx hb dL_begin_5 rfl (lv_at hl 2 rfl) ?_
  refine lv_iload_n hx hb dL_begin_6 rfl (lv_at hl 3 rfl) ?_
  refine g_cI C0 G (g_runV C0 G (rest := [.int 0, .ref out]) (k_X8_begin hfl a1 a2 a3 h_sc h_m0 h_lg h_al h_i0 h_i1 h_i2 h_i3 h_i4 h_i5 h_i6 h_i7 h_i8 h_i9 h_i10 h_i11 h_i12 hg0 oI oB) h_sc rfl hY_X8_begin mm_L_7 mi_X8_begin ml_X8_begin ⟨(Nat.le_of_ble_eq_true rfl), (Nat.le_of_ble_eq_true rfl)⟩ rfl hl.1 rfl (Nat.le_of_ble_eq_true rfl) dL_begin_7 ⟨(Nat.le_of_ble_eq_true rfl), (Nat.le_of_ble_eq_true rfl)⟩) ?_ ?_
  · intro E9 ce9 q9 u9 H1 locs1 hpx G hce hcv hcl
    obtain ⟨rfl, hP, hfr⟩ := hpx
    refine g_catch C0 hT9 [] [] (0, 12, 15, 13) rfl (fun z hz => by cases hz) rfl (by decide) mk_L_13 mca_IAE hce hcv hcl ?_
    refine lv_astore (lv' := [(5, .ref q9), (0, .ref sc), (1, .int a1), (2, .int a2), (3, .int a3), (4, .ref out)]) hx hb dL_begin_15 hl (by decide) rfl (fun ls hl => ?_)
    refine lv_iconst (v := 1) hx hb dL_begin_17 (by decide) ?_
    exact g_iret C0 G hr dL_begin_18 (Nat.le_of_ble_eq_true rfl) (Nat.le_of_ble_eq_true rfl) (by exact Or.inr ⟨rfl, hP, (by rw [hfr]; exact fun _ _ _ h => h)⟩)
  · intro r1 u2 H locs hp3 G
    obtain ⟨rfl, hP5, fr4⟩ := hp3
    refine lv_i2l (v := ((a1 + 4) / 5).toInt64) hx hb dL_begin_10 rfl ?_
    have k6 : u2 out = some (.inl (cy 5, 1, .inr (.inl gl))) := fr4 _ _ (by simp only [List.mem_cons, List.not_mem_nil, or_false]; intro q; rcases q with q | q | q | q | q | q | q | q | q | q | q | q | q | q | q <;> exact absurd q (by omega)) h_out
    refine g_last C0 G k6 5 rfl (by unfold vp_in; decide) dL_begin_11 (fun H locs f7 hf7 G => ?_)
    have k8 : f7 out = some (.inl (cy 5, 1, .inr (.inl (vp_updL gl 0 (((a1 + 4) / 5).toInt64))))) := hus hf7
    refine lv_goto (tgt := 19) hx hb dL_begin_12 (by decide) ?_
    refine lv_iconst (v := 0) hx hb dL_begin_19 (by decide) ?_
    exact g_iret C0 G hr dL_begin_20 (Nat.le_of_ble_eq_true rfl) (Nat.le_of_ble_eq_true rfl) (by exact Or.inl ⟨rfl, hP5, k8, fun a9 e9 h7 h8 => hup hf7 (fun q => h7 (by rw [q]; simp)) (fr4 _ _ (fun q => h7 (by simp only [List.mem_cons, List.not_mem_nil, or_false] at q ⊢; omega)) (h8))⟩)
