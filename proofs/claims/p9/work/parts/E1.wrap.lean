/-! THE LAW'S OWN METHODS, over any contract of the scorer's method -/
section GD9
variable {p : Program} {l : Launch} {e : Env} {R : Room} {s : State} {m : MethodId} {args : Array Value} {below : List Frame} {meth : Method} {c : Code} {H : Heap} {locs : List Loc} {cells slots : Nat} {Q : State → Prop}
variable {cc : ByteArray} {nL pc : Nat} {ls : Array Slot} {rest st0 : List Value} {D : va_G} {A : Nat → Prop} {a : Nat} {tys : List (ClassId × FieldType)} {f : Hf} {own : String}
theorem g_dast (C0 : hC p l s m meth c cc nL args own D tys A) (G : hG D A f s H locs) {cA : ClassId} {n : Nat} {g : Nat → UInt64} (he : f a = some (.inl (cA, n, .inr (.inr (.inr (.inl g)))))) (t0 : Nat) (ht : tys[t0]? = some (cA, .double)) {i : Int32} {x : UInt64} (hin : vp_in i n) (hdg : decode cc pc = .ok (.dastore, 1))
    (kk : ∀ (H1 : Heap) (locs1 : List Loc) (f1 : Hf), f1 = va_up f a (some (.inl (cA, n, .inr (.inr (.inr (.inl (vf_upd g i.toNatClampNeg x))))))) → hG D A f1 s H1 locs1 → W p l e R s m args below meth c H1 locs1 cells slots Q (F0 m (pc + 1) ls rest)) : W p l e R s m args below meth c H locs cells slots Q (F0 m pc ls (.double x :: .int i :: .ref a :: rest)) := by
  obtain ⟨hat, haA⟩ := G.1 a _ he
  refine W.dast C0.1.1 C0.1.2.1 hat ((C0.2.1.2 t0 _ ht).1 n (fun j => .double (g j))) (fun q => by cases q) (by show ¬ (i < 0 ∨ (arrV _ _ _).slots.size ≤ _); rw [arrV_size]; exact hin) rfl rfl hdg fun H1 e z oq => ?_
  refine kk H1 _ _ rfl ⟨hq_set G.1 haA ?_ oq, G.2.put z oq haA⟩
  show H1[a]? = some (vp_cell _ _)
  rw [e, vp_cell_d, vp_cell_d, arrV_store]
  congr 2
  funext q
  by_cases hq : q = i.toNatClampNeg
  · subst hq
    simp [updV, vf_upd]
  · simp [updV, vf_upd, hq]
end GD9
set_option maxRecDepth 100000 in
theorem w_begin {l : Launch} (hfl : l.stackTraces = false) {D : va_G} {cy : Nat → ClassId} {f : Hf} {sz : Nat} {x out : Nat} {fsx : List Value} {gl : Nat → Int64} {p0 p1 p2 : Int32} {P : Int32 → Hf → Prop} {X : String → Hf → Prop} (h_x : f x = some (.inr (10, fsx))) (K : ∀ sz, hMet l yX8_begin cX8_begin 4 (some .int) { frames := 8, cells := 64, slots := 600, locals := 140 } D (hTy cy) f sz [.ref x, .int p0, .int p1, .int p2] (hQi P D f sz) X) (hX : ∀ E u, X E u → E = "java/lang/IllegalArgumentException") (hPo : ∀ v w, P v w → w out = some (.inl (cy 5, 1, .inr (.inl gl)))) : hMetH l yL_begin cL_begin 6 (some .int) [((0 : Nat), (12 : Nat), (15 : Nat), (13 : Nat))] { frames := 9, cells := 64, slots := 600, locals := 170 } D (hTy cy) f sz [.ref x, .int p0, .int p1, .int p2, .ref out] (hQi (fun r u => (r = 0 ∧ ∃ v w, P v w ∧ u = va_up w out (some (.inl (cy 5, 1, .inr (.inl (vp_updL gl 0 v.toInt64)))))) ∨ (r = 1 ∧ X "java/lang/IllegalArgumentException" u)) D f sz) hNo := by
  refine h_enterH (by decide) rfl hfl (Nat.le_of_ble_eq_true rfl) ?_
  intro p9 e9 s9 m9 b9 t9 c9 hsz hT9 C0 hr hnm G ls hl
  have hx := C0.1.1
  have hb := C0.1.2.1
  have hl : lv_has ls 6 [(0, .ref x), (1, .int p0), (2, .int p1), (3, .int p2), (4, .ref out)] := hl
  refine lv_aload hx hb dL_begin_0 (lv_at hl 4 rfl) ?_
  refine lv_iconst (v := 0) hx hb dL_begin_2 (by decide) ?_
  refine lv_aload_n hx hb dL_begin_3 rfl (lv_at hl 0 rfl) ?_
  refine lv_iload_n hx hb dL_begin_4 rfl (lv_at hl 1 rfl) ?_
  refine lv_iload_n hx hb dL_begin_5 rfl (lv_at hl 2 rfl) ?_
  refine lv_iload_n hx hb dL_begin_6 rfl (lv_at hl 3 rfl) ?_
  refine g_cI C0 G (g_runV C0 G (rest := [.int 0, .ref out]) (K _) h_x rfl hY_X8_begin mm_L_7 mi_X8_begin ml_X8_begin ⟨(Nat.le_of_ble_eq_true rfl), (Nat.le_of_ble_eq_true rfl)⟩ rfl hl.1 rfl (Nat.le_of_ble_eq_true rfl) dL_begin_7 ⟨(Nat.le_of_ble_eq_true rfl), (Nat.le_of_ble_eq_true rfl)⟩) ?_ ?_
  · intro E9 ce9 q9 u9 H1 locs1 hpx G hce hcv hcl
    obtain rfl := hX _ _ hpx
    refine g_catch C0 hT9 [] [] (0, 12, 15, 13) rfl (fun z hz => by cases hz) rfl (by decide) mk_L_13 mca_IAE hce hcv hcl ?_
    refine lv_astore (lv' := [(5, .ref q9), (0, .ref x), (1, .int p0), (2, .int p1), (3, .int p2), (4, .ref out)]) hx hb dL_begin_15 hl (by decide) rfl (fun ls hl => ?_)
    refine lv_iconst (v := 1) hx hb dL_begin_17 (by decide) ?_
    exact g_iret C0 G hr dL_begin_18 (Nat.le_of_ble_eq_true rfl) (Nat.le_of_ble_eq_true rfl) (by exact Or.inr (⟨rfl, hpx⟩))
  · intro r1 u2 H locs hp3 G
    have ho := hPo _ _ hp3
    refine lv_i2l (v := r1.toInt64) hx hb dL_begin_10 rfl ?_
    refine g_last C0 G ho 5 rfl (by unfold vp_in; decide) dL_begin_11 (fun H locs f7 hf7 G => ?_)
    refine lv_goto (tgt := 19) hx hb dL_begin_12 (by decide) ?_
    refine lv_iconst (v := 0) hx hb dL_begin_19 (by decide) ?_
    exact g_iret C0 G hr dL_begin_20 (Nat.le_of_ble_eq_true rfl) (Nat.le_of_ble_eq_true rfl) (by exact Or.inl ⟨rfl, _, _, hp3, hf7⟩)
set_option maxRecDepth 100000 in
theorem w_bowl {l : Launch} (hfl : l.stackTraces = false) {D : va_G} {cy : Nat → ClassId} {f : Hf} {sz : Nat} {x out : Nat} {fsx : List Value} {gl : Nat → Int64} {p0 : Int32} {P : Int32 → Hf → Prop} {X : String → Hf → Prop} (h_x : f x = some (.inr (10, fsx))) (K : ∀ sz, hMet l yX8_bowl cX8_bowl 2 (some .int) { frames := 8, cells := 64, slots := 600, locals := 140 } D (hTy cy) f sz [.ref x, .int p0] (hQi P D f sz) X) (hX : ∀ E u, X E u → E = "java/lang/IndexOutOfBoundsException" ∨ E = "java/lang/IllegalStateException") (hPo : ∀ v w, P v w → w out = some (.inl (cy 5, 1, .inr (.inl gl)))) : hMetH l yL_bowl cL_bowl 4 (some .int) [((0 : Nat), (9 : Nat), (12 : Nat), (19 : Nat)), ((0 : Nat), (9 : Nat), (15 : Nat), (21 : Nat))] { frames := 9, cells := 64, slots := 600, locals := 170 } D (hTy cy) f sz [.ref x, .int p0, .ref out] (hQi (fun r u => (r = 0 ∧ ∃ v w, P v w ∧ u = va_up w out (some (.inl (cy 5, 1, .inr (.inl (vp_updL gl 0 v.toInt64)))))) ∨ (r = 1 ∧ X "java/lang/IndexOutOfBoundsException" u) ∨ (r = 2 ∧ X "java/lang/IllegalStateException" u)) D f sz) hNo := by
  refine h_enterH (by decide) rfl hfl (Nat.le_of_ble_eq_true rfl) ?_
  intro p9 e9 s9 m9 b9 t9 c9 hsz hT9 C0 hr hnm G ls hl
  have hx := C0.1.1
  have hb := C0.1.2.1
  have hl : lv_has ls 4 [(0, .ref x), (1, .int p0), (2, .ref out)] := hl
  refine lv_aload_n hx hb dL_bowl_0 rfl (lv_at hl 2 rfl) ?_
  refine lv_iconst (v := 0) hx hb dL_bowl_1 (by decide) ?_
  refine lv_aload_n hx hb dL_bowl_2 rfl (lv_at hl 0 rfl) ?_
  refine lv_iload_n hx hb dL_bowl_3 rfl (lv_at hl 1 rfl) ?_
  refine g_cI C0 G (g_runV C0 G (rest := [.int 0, .ref out]) (K _) h_x rfl hY_X8_bowl mm_L_15 mi_X8_bowl ml_X8_bowl ⟨(Nat.le_of_ble_eq_true rfl), (Nat.le_of_ble_eq_true rfl)⟩ rfl hl.1 rfl (Nat.le_of_ble_eq_true rfl) dL_bowl_4 ⟨(Nat.le_of_ble_eq_true rfl), (Nat.le_of_ble_eq_true rfl)⟩) ?_ ?_
  · intro E9 ce9 q9 u9 H1 locs1 hpx G hce hcv hcl
    rcases hX _ _ hpx with rfl | rfl
    · refine g_catch C0 hT9 [] [(0, 9, 15, 21)] (0, 9, 12, 19) rfl (fun z hz => by cases hz) rfl (by decide) mk_L_19 mca_IOB hce hcv hcl ?_
      refine lv_astore_n (lv' := [(3, .ref q9), (0, .ref x), (1, .int p0), (2, .ref out)]) hx hb dL_bowl_12 rfl hl (by decide) rfl (fun ls hl => ?_)
      refine lv_iconst (v := 1) hx hb dL_bowl_13 (by decide) ?_
      exact g_iret C0 G hr dL_bowl_14 (Nat.le_of_ble_eq_true rfl) (Nat.le_of_ble_eq_true rfl) (by exact Or.inr (Or.inl ⟨rfl, hpx⟩))
    · refine g_catch C0 hT9 [(0, 9, 12, 19)] [] (0, 9, 15, 21) rfl (fun z hz => by simp only [List.mem_cons, List.not_mem_nil, or_false] at hz; subst hz; exact ⟨by decide, _, mk_L_19, by decide⟩) rfl (by decide) mk_L_21 mca_ISE hce hcv hcl ?_
      refine lv_astore_n (lv' := [(3, .ref q9), (0, .ref x), (1, .int p0), (2, .ref out)]) hx hb dL_bowl_15 rfl hl (by decide) rfl (fun ls hl => ?_)
      refine lv_iconst (v := 2) hx hb dL_bowl_16 (by decide) ?_
      exact g_iret C0 G hr dL_bowl_17 (Nat.le_of_ble_eq_true rfl) (Nat.le_of_ble_eq_true rfl) (by exact Or.inr (Or.inr (⟨rfl, hpx⟩)))
  · intro r1 u2 H locs hp3 G
    have ho := hPo _ _ hp3
    refine lv_i2l (v := r1.toInt64) hx hb dL_bowl_7 rfl ?_
    refine g_last C0 G ho 5 rfl (by unfold vp_in; decide) dL_bowl_8 (fun H locs f7 hf7 G => ?_)
    refine lv_goto (tgt := 18) hx hb dL_bowl_9 (by decide) ?_
    refine lv_iconst (v := 0) hx hb dL_bowl_18 (by decide) ?_
    exact g_iret C0 G hr dL_bowl_19 (Nat.le_of_ble_eq_true rfl) (Nat.le_of_ble_eq_true rfl) (by exact Or.inl ⟨rfl, _, _, hp3, hf7⟩)
set_option maxRecDepth 100000 in
theorem w_ball {l : Launch} (hfl : l.stackTraces = false) {D : va_G} {cy : Nat → ClassId} {f : Hf} {sz : Nat} {x out : Nat} {fsx : List Value} {gl : Nat → Int64} {p0 p1 p2 : Int32} {P : Int32 → Hf → Prop} {X : String → Hf → Prop} (h_x : f x = some (.inr (10, fsx))) (K : ∀ sz, hMet l yX8_ball cX8_ball 4 (some .int) { frames := 8, cells := 64, slots := 600, locals := 140 } D (hTy cy) f sz [.ref x, .int p0, .int p1, .int p2] (hQi P D f sz) X) (hX : ∀ E u, X E u → E = "java/lang/IllegalArgumentException" ∨ E = "java/lang/IllegalStateException") (hPo : ∀ v w, P v w → w out = some (.inl (cy 5, 1, .inr (.inl gl)))) : hMetH l yL_ball cL_ball 6 (some .int) [((0 : Nat), (12 : Nat), (15 : Nat), (13 : Nat)), ((0 : Nat), (12 : Nat), (19 : Nat), (21 : Nat))] { frames := 9, cells := 64, slots := 600, locals := 170 } D (hTy cy) f sz [.ref x, .int p0, .int p1, .int p2, .ref out] (hQi (fun r u => (r = 0 ∧ ∃ v w, P v w ∧ u = va_up w out (some (.inl (cy 5, 1, .inr (.inl (vp_updL gl 0 v.toInt64)))))) ∨ (r = 1 ∧ X "java/lang/IllegalArgumentException" u) ∨ (r = 2 ∧ X "java/lang/IllegalStateException" u)) D f sz) hNo := by
  refine h_enterH (by decide) rfl hfl (Nat.le_of_ble_eq_true rfl) ?_
  intro p9 e9 s9 m9 b9 t9 c9 hsz hT9 C0 hr hnm G ls hl
  have hx := C0.1.1
  have hb := C0.1.2.1
  have hl : lv_has ls 6 [(0, .ref x), (1, .int p0), (2, .int p1), (3, .int p2), (4, .ref out)] := hl
  refine lv_aload hx hb dL_ball_0 (lv_at hl 4 rfl) ?_
  refine lv_iconst (v := 0) hx hb dL_ball_2 (by decide) ?_
  refine lv_aload_n hx hb dL_ball_3 rfl (lv_at hl 0 rfl) ?_
  refine lv_iload_n hx hb dL_ball_4 rfl (lv_at hl 1 rfl) ?_
  refine lv_iload_n hx hb dL_ball_5 rfl (lv_at hl 2 rfl) ?_
  refine lv_iload_n hx hb dL_ball_6 rfl (lv_at hl 3 rfl) ?_
  refine g_cI C0 G (g_runV C0 G (rest := [.int 0, .ref out]) (K _) h_x rfl hY_X8_ball mm_L_23 mi_X8_ball ml_X8_ball ⟨(Nat.le_of_ble_eq_true rfl), (Nat.le_of_ble_eq_true rfl)⟩ rfl hl.1 rfl (Nat.le_of_ble_eq_true rfl) dL_ball_7 ⟨(Nat.le_of_ble_eq_true rfl), (Nat.le_of_ble_eq_true rfl)⟩) ?_ ?_
  · intro E9 ce9 q9 u9 H1 locs1 hpx G hce hcv hcl
    rcases hX _ _ hpx with rfl | rfl
    · refine g_catch C0 hT9 [] [(0, 12, 19, 21)] (0, 12, 15, 13) rfl (fun z hz => by cases hz) rfl (by decide) mk_L_13 mca_IAE hce hcv hcl ?_
      refine lv_astore (lv' := [(5, .ref q9), (0, .ref x), (1, .int p0), (2, .int p1), (3, .int p2), (4, .ref out)]) hx hb dL_ball_15 hl (by decide) rfl (fun ls hl => ?_)
      refine lv_iconst (v := 1) hx hb dL_ball_17 (by decide) ?_
      exact g_iret C0 G hr dL_ball_18 (Nat.le_of_ble_eq_true rfl) (Nat.le_of_ble_eq_true rfl) (by exact Or.inr (Or.inl ⟨rfl, hpx⟩))
    · refine g_catch C0 hT9 [(0, 12, 15, 13)] [] (0, 12, 19, 21) rfl (fun z hz => by simp only [List.mem_cons, List.not_mem_nil, or_false] at hz; subst hz; exact ⟨by decide, _, mk_L_13, by decide⟩) rfl (by decide) mk_L_21 mca_ISE hce hcv hcl ?_
      refine lv_astore (lv' := [(5, .ref q9), (0, .ref x), (1, .int p0), (2, .int p1), (3, .int p2), (4, .ref out)]) hx hb dL_ball_19 hl (by decide) rfl (fun ls hl => ?_)
      refine lv_iconst (v := 2) hx hb dL_ball_21 (by decide) ?_
      exact g_iret C0 G hr dL_ball_22 (Nat.le_of_ble_eq_true rfl) (Nat.le_of_ble_eq_true rfl) (by exact Or.inr (Or.inr (⟨rfl, hpx⟩)))
  · intro r1 u2 H locs hp3 G
    have ho := hPo _ _ hp3
    refine lv_i2l (v := r1.toInt64) hx hb dL_ball_10 rfl ?_
    refine g_last C0 G ho 5 rfl (by unfold vp_in; decide) dL_ball_11 (fun H locs f7 hf7 G => ?_)
    refine lv_goto (tgt := 23) hx hb dL_ball_12 (by decide) ?_
    refine lv_iconst (v := 0) hx hb dL_ball_23 (by decide) ?_
    exact g_iret C0 G hr dL_ball_24 (Nat.le_of_ble_eq_true rfl) (Nat.le_of_ble_eq_true rfl) (by exact Or.inl ⟨rfl, _, _, hp3, hf7⟩)
set_option maxRecDepth 100000 in
theorem w_wicket {l : Launch} (hfl : l.stackTraces = false) {D : va_G} {cy : Nat → ClassId} {f : Hf} {sz : Nat} {x out : Nat} {fsx : List Value} {gl : Nat → Int64} {p0 p1 p2 p3 p4 : Int32} {P : Int32 → Hf → Prop} {X : String → Hf → Prop} (h_x : f x = some (.inr (10, fsx))) (K : ∀ sz, hMet l yX8_wicket cX8_wicket 6 (some .int) { frames := 8, cells := 64, slots := 600, locals := 140 } D (hTy cy) f sz [.ref x, .int p0, .int p1, .int p2, .int p3, .int p4] (hQi P D f sz) X) (hX : ∀ E u, X E u → E = "java/lang/IllegalArgumentException" ∨ E = "java/lang/IllegalStateException") (hPo : ∀ v w, P v w → w out = some (.inl (cy 5, 1, .inr (.inl gl)))) : hMetH l yL_wicket cL_wicket 8 (some .int) [((0 : Nat), (16 : Nat), (19 : Nat), (13 : Nat)), ((0 : Nat), (16 : Nat), (23 : Nat), (21 : Nat))] { frames := 9, cells := 64, slots := 600, locals := 170 } D (hTy cy) f sz [.ref x, .int p0, .int p1, .int p2, .int p3, .int p4, .ref out] (hQi (fun r u => (r = 0 ∧ ∃ v w, P v w ∧ u = va_up w out (some (.inl (cy 5, 1, .inr (.inl (vp_updL gl 0 v.toInt64)))))) ∨ (r = 1 ∧ X "java/lang/IllegalArgumentException" u) ∨ (r = 2 ∧ X "java/lang/IllegalStateException" u)) D f sz) hNo := by
  refine h_enterH (by decide) rfl hfl (Nat.le_of_ble_eq_true rfl) ?_
  intro p9 e9 s9 m9 b9 t9 c9 hsz hT9 C0 hr hnm G ls hl
  have hx := C0.1.1
  have hb := C0.1.2.1
  have hl : lv_has ls 8 [(0, .ref x), (1, .int p0), (2, .int p1), (3, .int p2), (4, .int p3), (5, .int p4), (6, .ref out)] := hl
  refine lv_aload hx hb dL_wicket_0 (lv_at hl 6 rfl) ?_
  refine lv_iconst (v := 0) hx hb dL_wicket_2 (by decide) ?_
  refine lv_aload_n hx hb dL_wicket_3 rfl (lv_at hl 0 rfl) ?_
  refine lv_iload_n hx hb dL_wicket_4 rfl (lv_at hl 1 rfl) ?_
  refine lv_iload_n hx hb dL_wicket_5 rfl (lv_at hl 2 rfl) ?_
  refine lv_iload_n hx hb dL_wicket_6 rfl (lv_at hl 3 rfl) ?_
  refine lv_iload hx hb dL_wicket_7 (lv_at hl 4 rfl) ?_
  refine lv_iload hx hb dL_wicket_9 (lv_at hl 5 rfl) ?_
  refine g_cI C0 G (g_runV C0 G (rest := [.int 0, .ref out]) (K _) h_x rfl hY_X8_wicket mm_L_27 mi_X8_wicket ml_X8_wicket ⟨(Nat.le_of_ble_eq_true rfl), (Nat.le_of_ble_eq_true rfl)⟩ rfl hl.1 rfl (Nat.le_of_ble_eq_true rfl) dL_wicket_11 ⟨(Nat.le_of_ble_eq_true rfl), (Nat.le_of_ble_eq_true rfl)⟩) ?_ ?_
  · intro E9 ce9 q9 u9 H1 locs1 hpx G hce hcv hcl
    rcases hX _ _ hpx with rfl | rfl
    · refine g_catch C0 hT9 [] [(0, 16, 23, 21)] (0, 16, 19, 13) rfl (fun z hz => by cases hz) rfl (by decide) mk_L_13 mca_IAE hce hcv hcl ?_
      refine lv_astore (lv' := [(7, .ref q9), (0, .ref x), (1, .int p0), (2, .int p1), (3, .int p2), (4, .int p3), (5, .int p4), (6, .ref out)]) hx hb dL_wicket_19 hl (by decide) rfl (fun ls hl => ?_)
      refine lv_iconst (v := 1) hx hb dL_wicket_21 (by decide) ?_
      exact g_iret C0 G hr dL_wicket_22 (Nat.le_of_ble_eq_true rfl) (Nat.le_of_ble_eq_true rfl) (by exact Or.inr (Or.inl ⟨rfl, hpx⟩))
    · refine g_catch C0 hT9 [(0, 16, 19, 13)] [] (0, 16, 23, 21) rfl (fun z hz => by simp only [List.mem_cons, List.not_mem_nil, or_false] at hz; subst hz; exact ⟨by decide, _, mk_L_13, by decide⟩) rfl (by decide) mk_L_21 mca_ISE hce hcv hcl ?_
      refine lv_astore (lv' := [(7, .ref q9), (0, .ref x), (1, .int p0), (2, .int p1), (3, .int p2), (4, .int p3), (5, .int p4), (6, .ref out)]) hx hb dL_wicket_23 hl (by decide) rfl (fun ls hl => ?_)
      refine lv_iconst (v := 2) hx hb dL_wicket_25 (by decide) ?_
      exact g_iret C0 G hr dL_wicket_26 (Nat.le_of_ble_eq_true rfl) (Nat.le_of_ble_eq_true rfl) (by exact Or.inr (Or.inr (⟨rfl, hpx⟩)))
  · intro r1 u2 H locs hp3 G
    have ho := hPo _ _ hp3
    refine lv_i2l (v := r1.toInt64) hx hb dL_wicket_14 rfl ?_
    refine g_last C0 G ho 5 rfl (by unfold vp_in; decide) dL_wicket_15 (fun H locs f7 hf7 G => ?_)
    refine lv_goto (tgt := 27) hx hb dL_wicket_16 (by decide) ?_
    refine lv_iconst (v := 0) hx hb dL_wicket_27 (by decide) ?_
    exact g_iret C0 G hr dL_wicket_28 (Nat.le_of_ble_eq_true rfl) (Nat.le_of_ble_eq_true rfl) (by exact Or.inl ⟨rfl, _, _, hp3, hf7⟩)
set_option maxRecDepth 100000 in
theorem w_retire {l : Launch} (hfl : l.stackTraces = false) {D : va_G} {cy : Nat → ClassId} {f : Hf} {sz : Nat} {x out : Nat} {fsx : List Value} {gl : Nat → Int64} {p0 p1 : Int32} {P : Int32 → Hf → Prop} {X : String → Hf → Prop} (h_x : f x = some (.inr (10, fsx))) (K : ∀ sz, hMet l yX8_retire cX8_retire 3 (some .int) { frames := 8, cells := 64, slots := 600, locals := 140 } D (hTy cy) f sz [.ref x, .int p0, .int p1] (hQi P D f sz) X) (hX : ∀ E u, X E u → E = "java/lang/IllegalStateException") (hPo : ∀ v w, P v w → w out = some (.inl (cy 5, 1, .inr (.inl gl)))) : hMetH l yL_retire cL_retire 5 (some .int) [((0 : Nat), (10 : Nat), (13 : Nat), (21 : Nat))] { frames := 9, cells := 64, slots := 600, locals := 170 } D (hTy cy) f sz [.ref x, .int p0, .int p1, .ref out] (hQi (fun r u => (r = 0 ∧ ∃ v w, P v w ∧ u = va_up w out (some (.inl (cy 5, 1, .inr (.inl (vp_updL gl 0 v.toInt64)))))) ∨ (r = 1 ∧ X "java/lang/IllegalStateException" u)) D f sz) hNo := by
  refine h_enterH (by decide) rfl hfl (Nat.le_of_ble_eq_true rfl) ?_
  intro p9 e9 s9 m9 b9 t9 c9 hsz hT9 C0 hr hnm G ls hl
  have hx := C0.1.1
  have hb := C0.1.2.1
  have hl : lv_has ls 5 [(0, .ref x), (1, .int p0), (2, .int p1), (3, .ref out)] := hl
  refine lv_aload_n hx hb dL_retire_0 rfl (lv_at hl 3 rfl) ?_
  refine lv_iconst (v := 0) hx hb dL_retire_1 (by decide) ?_
  refine lv_aload_n hx hb dL_retire_2 rfl (lv_at hl 0 rfl) ?_
  refine lv_iload_n hx hb dL_retire_3 rfl (lv_at hl 1 rfl) ?_
  refine lv_iload_n hx hb dL_retire_4 rfl (lv_at hl 2 rfl) ?_
  refine g_cI C0 G (g_runV C0 G (rest := [.int 0, .ref out]) (K _) h_x rfl hY_X8_retire mm_L_31 mi_X8_retire ml_X8_retire ⟨(Nat.le_of_ble_eq_true rfl), (Nat.le_of_ble_eq_true rfl)⟩ rfl hl.1 rfl (Nat.le_of_ble_eq_true rfl) dL_retire_5 ⟨(Nat.le_of_ble_eq_true rfl), (Nat.le_of_ble_eq_true rfl)⟩) ?_ ?_
  · intro E9 ce9 q9 u9 H1 locs1 hpx G hce hcv hcl
    obtain rfl := hX _ _ hpx
    refine g_catch C0 hT9 [] [] (0, 10, 13, 21) rfl (fun z hz => by cases hz) rfl (by decide) mk_L_21 mca_ISE hce hcv hcl ?_
    refine lv_astore (lv' := [(4, .ref q9), (0, .ref x), (1, .int p0), (2, .int p1), (3, .ref out)]) hx hb dL_retire_13 hl (by decide) rfl (fun ls hl => ?_)
    refine lv_iconst (v := 1) hx hb dL_retire_15 (by decide) ?_
    exact g_iret C0 G hr dL_retire_16 (Nat.le_of_ble_eq_true rfl) (Nat.le_of_ble_eq_true rfl) (by exact Or.inr (⟨rfl, hpx⟩))
  · intro r1 u2 H locs hp3 G
    have ho := hPo _ _ hp3
    refine lv_i2l (v := r1.toInt64) hx hb dL_retire_8 rfl ?_
    refine g_last C0 G ho 5 rfl (by unfold vp_in; decide) dL_retire_9 (fun H locs f7 hf7 G => ?_)
    refine lv_goto (tgt := 17) hx hb dL_retire_10 (by decide) ?_
    refine lv_iconst (v := 0) hx hb dL_retire_17 (by decide) ?_
    exact g_iret C0 G hr dL_retire_18 (Nat.le_of_ble_eq_true rfl) (Nat.le_of_ble_eq_true rfl) (by exact Or.inl ⟨rfl, _, _, hp3, hf7⟩)
set_option maxRecDepth 100000 in
theorem w_choose {l : Launch} (hfl : l.stackTraces = false) {D : va_G} {cy : Nat → ClassId} {f : Hf} {sz : Nat} {x out : Nat} {fsx : List Value} {gl : Nat → Int64} {p0 : Int32} {P : Int32 → Hf → Prop} {X : String → Hf → Prop} (h_x : f x = some (.inr (10, fsx))) (K : ∀ sz, hMet l yX8_choose cX8_choose 2 (some .int) { frames := 8, cells := 64, slots := 600, locals := 140 } D (hTy cy) f sz [.ref x, .int p0] (hQi P D f sz) X) (hX : ∀ E u, X E u → E = "java/lang/IndexOutOfBoundsException" ∨ E = "java/lang/IllegalStateException") (hPo : ∀ v w, P v w → w out = some (.inl (cy 5, 1, .inr (.inl gl)))) : hMetH l yL_choose cL_choose 4 (some .int) [((0 : Nat), (9 : Nat), (12 : Nat), (19 : Nat)), ((0 : Nat), (9 : Nat), (15 : Nat), (21 : Nat))] { frames := 9, cells := 64, slots := 600, locals := 170 } D (hTy cy) f sz [.ref x, .int p0, .ref out] (hQi (fun r u => (r = 0 ∧ ∃ v w, P v w ∧ u = va_up w out (some (.inl (cy 5, 1, .inr (.inl (vp_updL gl 0 v.toInt64)))))) ∨ (r = 1 ∧ X "java/lang/IndexOutOfBoundsException" u) ∨ (r = 2 ∧ X "java/lang/IllegalStateException" u)) D f sz) hNo := by
  refine h_enterH (by decide) rfl hfl (Nat.le_of_ble_eq_true rfl) ?_
  intro p9 e9 s9 m9 b9 t9 c9 hsz hT9 C0 hr hnm G ls hl
  have hx := C0.1.1
  have hb := C0.1.2.1
  have hl : lv_has ls 4 [(0, .ref x), (1, .int p0), (2, .ref out)] := hl
  refine lv_aload_n hx hb dL_choose_0 rfl (lv_at hl 2 rfl) ?_
  refine lv_iconst (v := 0) hx hb dL_choose_1 (by decide) ?_
  refine lv_aload_n hx hb dL_choose_2 rfl (lv_at hl 0 rfl) ?_
  refine lv_iload_n hx hb dL_choose_3 rfl (lv_at hl 1 rfl) ?_
  refine g_cI C0 G (g_runV C0 G (rest := [.int 0, .ref out]) (K _) h_x rfl hY_X8_choose mm_L_35 mi_X8_choose ml_X8_choose ⟨(Nat.le_of_ble_eq_true rfl), (Nat.le_of_ble_eq_true rfl)⟩ rfl hl.1 rfl (Nat.le_of_ble_eq_true rfl) dL_choose_4 ⟨(Nat.le_of_ble_eq_true rfl), (Nat.le_of_ble_eq_true rfl)⟩) ?_ ?_
  · intro E9 ce9 q9 u9 H1 locs1 hpx G hce hcv hcl
    rcases hX _ _ hpx with rfl | rfl
    · refine g_catch C0 hT9 [] [(0, 9, 15, 21)] (0, 9, 12, 19) rfl (fun z hz => by cases hz) rfl (by decide) mk_L_19 mca_IOB hce hcv hcl ?_
      refine lv_astore_n (lv' := [(3, .ref q9), (0, .ref x), (1, .int p0), (2, .ref out)]) hx hb dL_choose_12 rfl hl (by decide) rfl (fun ls hl => ?_)
      refine lv_iconst (v := 1) hx hb dL_choose_13 (by decide) ?_
      exact g_iret C0 G hr dL_choose_14 (Nat.le_of_ble_eq_true rfl) (Nat.le_of_ble_eq_true rfl) (by exact Or.inr (Or.inl ⟨rfl, hpx⟩))
    · refine g_catch C0 hT9 [(0, 9, 12, 19)] [] (0, 9, 15, 21) rfl (fun z hz => by simp only [List.mem_cons, List.not_mem_nil, or_false] at hz; subst hz; exact ⟨by decide, _, mk_L_19, by decide⟩) rfl (by decide) mk_L_21 mca_ISE hce hcv hcl ?_
      refine lv_astore_n (lv' := [(3, .ref q9), (0, .ref x), (1, .int p0), (2, .ref out)]) hx hb dL_choose_15 rfl hl (by decide) rfl (fun ls hl => ?_)
      refine lv_iconst (v := 2) hx hb dL_choose_16 (by decide) ?_
      exact g_iret C0 G hr dL_choose_17 (Nat.le_of_ble_eq_true rfl) (Nat.le_of_ble_eq_true rfl) (by exact Or.inr (Or.inr (⟨rfl, hpx⟩)))
  · intro r1 u2 H locs hp3 G
    have ho := hPo _ _ hp3
    refine lv_i2l (v := r1.toInt64) hx hb dL_choose_7 rfl ?_
    refine g_last C0 G ho 5 rfl (by unfold vp_in; decide) dL_choose_8 (fun H locs f7 hf7 G => ?_)
    refine lv_goto (tgt := 18) hx hb dL_choose_9 (by decide) ?_
    refine lv_iconst (v := 0) hx hb dL_choose_18 (by decide) ?_
    exact g_iret C0 G hr dL_choose_19 (Nat.le_of_ble_eq_true rfl) (Nat.le_of_ble_eq_true rfl) (by exact Or.inl ⟨rfl, _, _, hp3, hf7⟩)
set_option maxRecDepth 100000 in
theorem w_declare {l : Launch} (hfl : l.stackTraces = false) {D : va_G} {cy : Nat → ClassId} {f : Hf} {sz : Nat} {x out : Nat} {fsx : List Value} {gl : Nat → Int64} {P : Int32 → Hf → Prop} {X : String → Hf → Prop} (h_x : f x = some (.inr (10, fsx))) (K : ∀ sz, hMet l yX8_declare cX8_declare 1 (some .int) { frames := 8, cells := 64, slots := 600, locals := 140 } D (hTy cy) f sz [.ref x] (hQi P D f sz) X) (hX : ∀ E u, X E u → E = "java/lang/IllegalStateException") (hPo : ∀ v w, P v w → w out = some (.inl (cy 5, 1, .inr (.inl gl)))) : hMetH l yL_declare cL_declare 3 (some .int) [((0 : Nat), (8 : Nat), (11 : Nat), (21 : Nat))] { frames := 9, cells := 64, slots := 600, locals := 170 } D (hTy cy) f sz [.ref x, .ref out] (hQi (fun r u => (r = 0 ∧ ∃ v w, P v w ∧ u = va_up w out (some (.inl (cy 5, 1, .inr (.inl (vp_updL gl 0 v.toInt64)))))) ∨ (r = 1 ∧ X "java/lang/IllegalStateException" u)) D f sz) hNo := by
  refine h_enterH (by decide) rfl hfl (Nat.le_of_ble_eq_true rfl) ?_
  intro p9 e9 s9 m9 b9 t9 c9 hsz hT9 C0 hr hnm G ls hl
  have hx := C0.1.1
  have hb := C0.1.2.1
  have hl : lv_has ls 3 [(0, .ref x), (1, .ref out)] := hl
  refine lv_aload_n hx hb dL_declare_0 rfl (lv_at hl 1 rfl) ?_
  refine lv_iconst (v := 0) hx hb dL_declare_1 (by decide) ?_
  refine lv_aload_n hx hb dL_declare_2 rfl (lv_at hl 0 rfl) ?_
  refine g_cI C0 G (g_runV C0 G (rest := [.int 0, .ref out]) (K _) h_x rfl hY_X8_declare mm_L_38 mi_X8_declare ml_X8_declare ⟨(Nat.le_of_ble_eq_true rfl), (Nat.le_of_ble_eq_true rfl)⟩ rfl hl.1 rfl (Nat.le_of_ble_eq_true rfl) dL_declare_3 ⟨(Nat.le_of_ble_eq_true rfl), (Nat.le_of_ble_eq_true rfl)⟩) ?_ ?_
  · intro E9 ce9 q9 u9 H1 locs1 hpx G hce hcv hcl
    obtain rfl := hX _ _ hpx
    refine g_catch C0 hT9 [] [] (0, 8, 11, 21) rfl (fun z hz => by cases hz) rfl (by decide) mk_L_21 mca_ISE hce hcv hcl ?_
    refine lv_astore_n (lv' := [(2, .ref q9), (0, .ref x), (1, .ref out)]) hx hb dL_declare_11 rfl hl (by decide) rfl (fun ls hl => ?_)
    refine lv_iconst (v := 1) hx hb dL_declare_12 (by decide) ?_
    exact g_iret C0 G hr dL_declare_13 (Nat.le_of_ble_eq_true rfl) (Nat.le_of_ble_eq_true rfl) (by exact Or.inr (⟨rfl, hpx⟩))
  · intro r1 u2 H locs hp3 G
    have ho := hPo _ _ hp3
    refine lv_i2l (v := r1.toInt64) hx hb dL_declare_6 rfl ?_
    refine g_last C0 G ho 5 rfl (by unfold vp_in; decide) dL_declare_7 (fun H locs f7 hf7 G => ?_)
    refine lv_goto (tgt := 14) hx hb dL_declare_8 (by decide) ?_
    refine lv_iconst (v := 0) hx hb dL_declare_14 (by decide) ?_
    exact g_iret C0 G hr dL_declare_15 (Nat.le_of_ble_eq_true rfl) (Nat.le_of_ble_eq_true rfl) (by exact Or.inl ⟨rfl, _, _, hp3, hf7⟩)
set_option maxRecDepth 100000 in
theorem w_loseOvers {l : Launch} (hfl : l.stackTraces = false) {D : va_G} {cy : Nat → ClassId} {f : Hf} {sz : Nat} {x out : Nat} {fsx : List Value} {gl : Nat → Int64} {p0 : Int32} {P : Int32 → Hf → Prop} {X : String → Hf → Prop} (h_x : f x = some (.inr (10, fsx))) (K : ∀ sz, hMet l yX8_loseOvers cX8_loseOvers 2 (some .int) { frames := 8, cells := 64, slots := 600, locals := 140 } D (hTy cy) f sz [.ref x, .int p0] (hQi P D f sz) X) (hX : ∀ E u, X E u → E = "java/lang/IllegalArgumentException" ∨ E = "java/lang/IllegalStateException") (hPo : ∀ v w, P v w → w out = some (.inl (cy 5, 1, .inr (.inl gl)))) : hMetH l yL_loseOvers cL_loseOvers 4 (some .int) [((0 : Nat), (9 : Nat), (12 : Nat), (13 : Nat)), ((0 : Nat), (9 : Nat), (15 : Nat), (21 : Nat))] { frames := 9, cells := 64, slots := 600, locals := 170 } D (hTy cy) f sz [.ref x, .int p0, .ref out] (hQi (fun r u => (r = 0 ∧ ∃ v w, P v w ∧ u = va_up w out (some (.inl (cy 5, 1, .inr (.inl (vp_updL gl 0 v.toInt64)))))) ∨ (r = 1 ∧ X "java/lang/IllegalArgumentException" u) ∨ (r = 2 ∧ X "java/lang/IllegalStateException" u)) D f sz) hNo := by
  refine h_enterH (by decide) rfl hfl (Nat.le_of_ble_eq_true rfl) ?_
  intro p9 e9 s9 m9 b9 t9 c9 hsz hT9 C0 hr hnm G ls hl
  have hx := C0.1.1
  have hb := C0.1.2.1
  have hl : lv_has ls 4 [(0, .ref x), (1, .int p0), (2, .ref out)] := hl
  refine lv_aload_n hx hb dL_loseOvers_0 rfl (lv_at hl 2 rfl) ?_
  refine lv_iconst (v := 0) hx hb dL_loseOvers_1 (by decide) ?_
  refine lv_aload_n hx hb dL_loseOvers_2 rfl (lv_at hl 0 rfl) ?_
  refine lv_iload_n hx hb dL_loseOvers_3 rfl (lv_at hl 1 rfl) ?_
  refine g_cI C0 G (g_runV C0 G (rest := [.int 0, .ref out]) (K _) h_x rfl hY_X8_loseOvers mm_L_42 mi_X8_loseOvers ml_X8_loseOvers ⟨(Nat.le_of_ble_eq_true rfl), (Nat.le_of_ble_eq_true rfl)⟩ rfl hl.1 rfl (Nat.le_of_ble_eq_true rfl) dL_loseOvers_4 ⟨(Nat.le_of_ble_eq_true rfl), (Nat.le_of_ble_eq_true rfl)⟩) ?_ ?_
  · intro E9 ce9 q9 u9 H1 locs1 hpx G hce hcv hcl
    rcases hX _ _ hpx with rfl | rfl
    · refine g_catch C0 hT9 [] [(0, 9, 15, 21)] (0, 9, 12, 13) rfl (fun z hz => by cases hz) rfl (by decide) mk_L_13 mca_IAE hce hcv hcl ?_
      refine lv_astore_n (lv' := [(3, .ref q9), (0, .ref x), (1, .int p0), (2, .ref out)]) hx hb dL_loseOvers_12 rfl hl (by decide) rfl (fun ls hl => ?_)
      refine lv_iconst (v := 1) hx hb dL_loseOvers_13 (by decide) ?_
      exact g_iret C0 G hr dL_loseOvers_14 (Nat.le_of_ble_eq_true rfl) (Nat.le_of_ble_eq_true rfl) (by exact Or.inr (Or.inl ⟨rfl, hpx⟩))
    · refine g_catch C0 hT9 [(0, 9, 12, 13)] [] (0, 9, 15, 21) rfl (fun z hz => by simp only [List.mem_cons, List.not_mem_nil, or_false] at hz; subst hz; exact ⟨by decide, _, mk_L_13, by decide⟩) rfl (by decide) mk_L_21 mca_ISE hce hcv hcl ?_
      refine lv_astore_n (lv' := [(3, .ref q9), (0, .ref x), (1, .int p0), (2, .ref out)]) hx hb dL_loseOvers_15 rfl hl (by decide) rfl (fun ls hl => ?_)
      refine lv_iconst (v := 2) hx hb dL_loseOvers_16 (by decide) ?_
      exact g_iret C0 G hr dL_loseOvers_17 (Nat.le_of_ble_eq_true rfl) (Nat.le_of_ble_eq_true rfl) (by exact Or.inr (Or.inr (⟨rfl, hpx⟩)))
  · intro r1 u2 H locs hp3 G
    have ho := hPo _ _ hp3
    refine lv_i2l (v := r1.toInt64) hx hb dL_loseOvers_7 rfl ?_
    refine g_last C0 G ho 5 rfl (by unfold vp_in; decide) dL_loseOvers_8 (fun H locs f7 hf7 G => ?_)
    refine lv_goto (tgt := 18) hx hb dL_loseOvers_9 (by decide) ?_
    refine lv_iconst (v := 0) hx hb dL_loseOvers_18 (by decide) ?_
    exact g_iret C0 G hr dL_loseOvers_19 (Nat.le_of_ble_eq_true rfl) (Nat.le_of_ble_eq_true rfl) (by exact Or.inl ⟨rfl, _, _, hp3, hf7⟩)
set_option maxRecDepth 100000 in
theorem w_append {l : Launch} (hfl : l.stackTraces = false) {D : va_G} {cy : Nat → ClassId} {f : Hf} {sz : Nat} {x out : Nat} {fsx : List Value} {gl : Nat → Int64} {p0 : Int32} {P : Int32 → Hf → Prop} {X : String → Hf → Prop} (h_x : f x = some (.inr (10, fsx))) (K : ∀ sz, hMet l yX8_append cX8_append 2 (some .int) { frames := 8, cells := 64, slots := 600, locals := 140 } D (hTy cy) f sz [.ref x, .int p0] (hQi P D f sz) X) (hX : ∀ E u, X E u → E = "java/lang/IllegalArgumentException" ∨ E = "java/lang/UnsupportedOperationException") (hPo : ∀ v w, P v w → w out = some (.inl (cy 5, 1, .inr (.inl gl)))) : hMetH l yL_append cL_append 4 (some .int) [((0 : Nat), (9 : Nat), (12 : Nat), (13 : Nat)), ((0 : Nat), (9 : Nat), (15 : Nat), (49 : Nat))] { frames := 9, cells := 64, slots := 600, locals := 170 } D (hTy cy) f sz [.ref x, .int p0, .ref out] (hQi (fun r u => (r = 0 ∧ ∃ v w, P v w ∧ u = va_up w out (some (.inl (cy 5, 1, .inr (.inl (vp_updL gl 0 v.toInt64)))))) ∨ (r = 1 ∧ X "java/lang/IllegalArgumentException" u) ∨ (r = 2 ∧ X "java/lang/UnsupportedOperationException" u)) D f sz) hNo := by
  refine h_enterH (by decide) rfl hfl (Nat.le_of_ble_eq_true rfl) ?_
  intro p9 e9 s9 m9 b9 t9 c9 hsz hT9 C0 hr hnm G ls hl
  have hx := C0.1.1
  have hb := C0.1.2.1
  have hl : lv_has ls 4 [(0, .ref x), (1, .int p0), (2, .ref out)] := hl
  refine lv_aload_n hx hb dL_append_0 rfl (lv_at hl 2 rfl) ?_
  refine lv_iconst (v := 0) hx hb dL_append_1 (by decide) ?_
  refine lv_aload_n hx hb dL_append_2 rfl (lv_at hl 0 rfl) ?_
  refine lv_iload_n hx hb dL_append_3 rfl (lv_at hl 1 rfl) ?_
  refine g_cI C0 G (g_runV C0 G (rest := [.int 0, .ref out]) (K _) h_x rfl hY_X8_append mm_L_45 mi_X8_append ml_X8_append ⟨(Nat.le_of_ble_eq_true rfl), (Nat.le_of_ble_eq_true rfl)⟩ rfl hl.1 rfl (Nat.le_of_ble_eq_true rfl) dL_append_4 ⟨(Nat.le_of_ble_eq_true rfl), (Nat.le_of_ble_eq_true rfl)⟩) ?_ ?_
  · intro E9 ce9 q9 u9 H1 locs1 hpx G hce hcv hcl
    rcases hX _ _ hpx with rfl | rfl
    · refine g_catch C0 hT9 [] [(0, 9, 15, 49)] (0, 9, 12, 13) rfl (fun z hz => by cases hz) rfl (by decide) mk_L_13 mca_IAE hce hcv hcl ?_
      refine lv_astore_n (lv' := [(3, .ref q9), (0, .ref x), (1, .int p0), (2, .ref out)]) hx hb dL_append_12 rfl hl (by decide) rfl (fun ls hl => ?_)
      refine lv_iconst (v := 1) hx hb dL_append_13 (by decide) ?_
      exact g_iret C0 G hr dL_append_14 (Nat.le_of_ble_eq_true rfl) (Nat.le_of_ble_eq_true rfl) (by exact Or.inr (Or.inl ⟨rfl, hpx⟩))
    · refine g_catch C0 hT9 [(0, 9, 12, 13)] [] (0, 9, 15, 49) rfl (fun z hz => by simp only [List.mem_cons, List.not_mem_nil, or_false] at hz; subst hz; exact ⟨by decide, _, mk_L_13, by decide⟩) rfl (by decide) mk_L_49 mca_UOE hce hcv hcl ?_
      refine lv_astore_n (lv' := [(3, .ref q9), (0, .ref x), (1, .int p0), (2, .ref out)]) hx hb dL_append_15 rfl hl (by decide) rfl (fun ls hl => ?_)
      refine lv_iconst (v := 2) hx hb dL_append_16 (by decide) ?_
      exact g_iret C0 G hr dL_append_17 (Nat.le_of_ble_eq_true rfl) (Nat.le_of_ble_eq_true rfl) (by exact Or.inr (Or.inr (⟨rfl, hpx⟩)))
  · intro r1 u2 H locs hp3 G
    have ho := hPo _ _ hp3
    refine lv_i2l (v := r1.toInt64) hx hb dL_append_7 rfl ?_
    refine g_last C0 G ho 5 rfl (by unfold vp_in; decide) dL_append_8 (fun H locs f7 hf7 G => ?_)
    refine lv_goto (tgt := 18) hx hb dL_append_9 (by decide) ?_
    refine lv_iconst (v := 0) hx hb dL_append_18 (by decide) ?_
    exact g_iret C0 G hr dL_append_19 (Nat.le_of_ble_eq_true rfl) (Nat.le_of_ble_eq_true rfl) (by exact Or.inl ⟨rfl, _, _, hp3, hf7⟩)
set_option maxRecDepth 100000 in
theorem w_play {l : Launch} (hfl : l.stackTraces = false) {D : va_G} {cy : Nat → ClassId} {f : Hf} {sz : Nat} {x out : Nat} {fsx : List Value} {gl : Nat → Int64} {P : Int32 → Hf → Prop} {X : String → Hf → Prop} (h_x : f x = some (.inr (10, fsx))) (K : ∀ sz, hMet l yX8_play cX8_play 3 (some .int) { frames := 8, cells := 64, slots := 600, locals := 140 } D (hTy cy) f sz [.ref x] (hQi P D f sz) X) (hX : ∀ E u, X E u → E = "java/lang/IllegalArgumentException" ∨ E = "java/lang/UnsupportedOperationException") (hPo : ∀ v w, P v w → w out = some (.inl (cy 5, 1, .inr (.inl gl)))) : hMetH l yL_play cL_play 3 (some .int) [((0 : Nat), (8 : Nat), (11 : Nat), (13 : Nat)), ((0 : Nat), (8 : Nat), (14 : Nat), (49 : Nat))] { frames := 9, cells := 64, slots := 600, locals := 170 } D (hTy cy) f sz [.ref x, .ref out] (hQi (fun r u => (r = 0 ∧ ∃ v w, P v w ∧ u = va_up w out (some (.inl (cy 5, 1, .inr (.inl (vp_updL gl 0 v.toInt64)))))) ∨ (r = 1 ∧ X "java/lang/IllegalArgumentException" u) ∨ (r = 2 ∧ X "java/lang/UnsupportedOperationException" u)) D f sz) hNo := by
  refine h_enterH (by decide) rfl hfl (Nat.le_of_ble_eq_true rfl) ?_
  intro p9 e9 s9 m9 b9 t9 c9 hsz hT9 C0 hr hnm G ls hl
  have hx := C0.1.1
  have hb := C0.1.2.1
  have hl : lv_has ls 3 [(0, .ref x), (1, .ref out)] := hl
  refine lv_aload_n hx hb dL_play_0 rfl (lv_at hl 1 rfl) ?_
  refine lv_iconst (v := 0) hx hb dL_play_1 (by decide) ?_
  refine lv_aload_n hx hb dL_play_2 rfl (lv_at hl 0 rfl) ?_
  refine g_cI C0 G (g_runV C0 G (rest := [.int 0, .ref out]) (K _) h_x rfl hY_X8_play mm_L_51 mi_X8_play ml_X8_play ⟨(Nat.le_of_ble_eq_true rfl), (Nat.le_of_ble_eq_true rfl)⟩ rfl hl.1 rfl (Nat.le_of_ble_eq_true rfl) dL_play_3 ⟨(Nat.le_of_ble_eq_true rfl), (Nat.le_of_ble_eq_true rfl)⟩) ?_ ?_
  · intro E9 ce9 q9 u9 H1 locs1 hpx G hce hcv hcl
    rcases hX _ _ hpx with rfl | rfl
    · refine g_catch C0 hT9 [] [(0, 8, 14, 49)] (0, 8, 11, 13) rfl (fun z hz => by cases hz) rfl (by decide) mk_L_13 mca_IAE hce hcv hcl ?_
      refine lv_astore_n (lv' := [(2, .ref q9), (0, .ref x), (1, .ref out)]) hx hb dL_play_11 rfl hl (by decide) rfl (fun ls hl => ?_)
      refine lv_iconst (v := 1) hx hb dL_play_12 (by decide) ?_
      exact g_iret C0 G hr dL_play_13 (Nat.le_of_ble_eq_true rfl) (Nat.le_of_ble_eq_true rfl) (by exact Or.inr (Or.inl ⟨rfl, hpx⟩))
    · refine g_catch C0 hT9 [(0, 8, 11, 13)] [] (0, 8, 14, 49) rfl (fun z hz => by simp only [List.mem_cons, List.not_mem_nil, or_false] at hz; subst hz; exact ⟨by decide, _, mk_L_13, by decide⟩) rfl (by decide) mk_L_49 mca_UOE hce hcv hcl ?_
      refine lv_astore_n (lv' := [(2, .ref q9), (0, .ref x), (1, .ref out)]) hx hb dL_play_14 rfl hl (by decide) rfl (fun ls hl => ?_)
      refine lv_iconst (v := 2) hx hb dL_play_15 (by decide) ?_
      exact g_iret C0 G hr dL_play_16 (Nat.le_of_ble_eq_true rfl) (Nat.le_of_ble_eq_true rfl) (by exact Or.inr (Or.inr (⟨rfl, hpx⟩)))
  · intro r1 u2 H locs hp3 G
    have ho := hPo _ _ hp3
    refine lv_i2l (v := r1.toInt64) hx hb dL_play_6 rfl ?_
    refine g_last C0 G ho 5 rfl (by unfold vp_in; decide) dL_play_7 (fun H locs f7 hf7 G => ?_)
    refine lv_goto (tgt := 17) hx hb dL_play_8 (by decide) ?_
    refine lv_iconst (v := 0) hx hb dL_play_17 (by decide) ?_
    exact g_iret C0 G hr dL_play_18 (Nat.le_of_ble_eq_true rfl) (Nat.le_of_ble_eq_true rfl) (by exact Or.inl ⟨rfl, _, _, hp3, hf7⟩)
set_option maxRecDepth 100000 in
theorem w_errorPosition {l : Launch} (hfl : l.stackTraces = false) {D : va_G} {cy : Nat → ClassId} {f : Hf} {sz : Nat} {x out : Nat} {fsx : List Value} {gl : Nat → Int64} {P : Int32 → Hf → Prop} {X : String → Hf → Prop} (h_x : f x = some (.inr (10, fsx))) (K : ∀ sz, hMet l yX8_errorPosition cX8_errorPosition 1 (some .int) { frames := 8, cells := 64, slots := 600, locals := 140 } D (hTy cy) f sz [.ref x] (hQi P D f sz) X) (hX : ∀ E u, X E u → E = "java/util/NoSuchElementException") (hPo : ∀ v w, P v w → w out = some (.inl (cy 5, 1, .inr (.inl gl)))) : hMetH l yL_errorPosition cL_errorPosition 3 (some .int) [((0 : Nat), (8 : Nat), (11 : Nat), (57 : Nat))] { frames := 9, cells := 64, slots := 600, locals := 170 } D (hTy cy) f sz [.ref x, .ref out] (hQi (fun r u => (r = 0 ∧ ∃ v w, P v w ∧ u = va_up w out (some (.inl (cy 5, 1, .inr (.inl (vp_updL gl 0 v.toInt64)))))) ∨ (r = 1 ∧ X "java/util/NoSuchElementException" u)) D f sz) hNo := by
  refine h_enterH (by decide) rfl hfl (Nat.le_of_ble_eq_true rfl) ?_
  intro p9 e9 s9 m9 b9 t9 c9 hsz hT9 C0 hr hnm G ls hl
  have hx := C0.1.1
  have hb := C0.1.2.1
  have hl : lv_has ls 3 [(0, .ref x), (1, .ref out)] := hl
  refine lv_aload_n hx hb dL_errorPosition_0 rfl (lv_at hl 1 rfl) ?_
  refine lv_iconst (v := 0) hx hb dL_errorPosition_1 (by decide) ?_
  refine lv_aload_n hx hb dL_errorPosition_2 rfl (lv_at hl 0 rfl) ?_
  refine g_cI C0 G (g_runV C0 G (rest := [.int 0, .ref out]) (K _) h_x rfl hY_X8_errorPosition mm_L_54 mi_X8_errorPosition ml_X8_errorPosition ⟨(Nat.le_of_ble_eq_true rfl), (Nat.le_of_ble_eq_true rfl)⟩ rfl hl.1 rfl (Nat.le_of_ble_eq_true rfl) dL_errorPosition_3 ⟨(Nat.le_of_ble_eq_true rfl), (Nat.le_of_ble_eq_true rfl)⟩) ?_ ?_
  · intro E9 ce9 q9 u9 H1 locs1 hpx G hce hcv hcl
    obtain rfl := hX _ _ hpx
    refine g_catch C0 hT9 [] [] (0, 8, 11, 57) rfl (fun z hz => by cases hz) rfl (by decide) mk_L_57 mca_NSE hce hcv hcl ?_
    refine lv_astore_n (lv' := [(2, .ref q9), (0, .ref x), (1, .ref out)]) hx hb dL_errorPosition_11 rfl hl (by decide) rfl (fun ls hl => ?_)
    refine lv_iconst (v := 1) hx hb dL_errorPosition_12 (by decide) ?_
    exact g_iret C0 G hr dL_errorPosition_13 (Nat.le_of_ble_eq_true rfl) (Nat.le_of_ble_eq_true rfl) (by exact Or.inr (⟨rfl, hpx⟩))
  · intro r1 u2 H locs hp3 G
    have ho := hPo _ _ hp3
    refine lv_i2l (v := r1.toInt64) hx hb dL_errorPosition_6 rfl ?_
    refine g_last C0 G ho 5 rfl (by unfold vp_in; decide) dL_errorPosition_7 (fun H locs f7 hf7 G => ?_)
    refine lv_goto (tgt := 14) hx hb dL_errorPosition_8 (by decide) ?_
    refine lv_iconst (v := 0) hx hb dL_errorPosition_14 (by decide) ?_
    exact g_iret C0 G hr dL_errorPosition_15 (Nat.le_of_ble_eq_true rfl) (Nat.le_of_ble_eq_true rfl) (by exact Or.inl ⟨rfl, _, _, hp3, hf7⟩)
set_option maxRecDepth 100000 in
theorem w_refused {l : Launch} (hfl : l.stackTraces = false) {D : va_G} {cy : Nat → ClassId} {f : Hf} {sz : Nat} {x out : Nat} {fsx : List Value} {gl : Nat → Int64} {P : Int32 → Hf → Prop} {X : String → Hf → Prop} (h_x : f x = some (.inr (10, fsx))) (K : ∀ sz, hMet l yX8_refused cX8_refused 1 (some .int) { frames := 8, cells := 64, slots := 600, locals := 140 } D (hTy cy) f sz [.ref x] (hQi P D f sz) X) (hX : ∀ E u, X E u → E = "java/util/NoSuchElementException") (hPo : ∀ v w, P v w → w out = some (.inl (cy 5, 1, .inr (.inl gl)))) : hMetH l yL_refused cL_refused 3 (some .int) [((0 : Nat), (8 : Nat), (11 : Nat), (57 : Nat))] { frames := 9, cells := 64, slots := 600, locals := 170 } D (hTy cy) f sz [.ref x, .ref out] (hQi (fun r u => (r = 0 ∧ ∃ v w, P v w ∧ u = va_up w out (some (.inl (cy 5, 1, .inr (.inl (vp_updL gl 0 v.toInt64)))))) ∨ (r = 1 ∧ X "java/util/NoSuchElementException" u)) D f sz) hNo := by
  refine h_enterH (by decide) rfl hfl (Nat.le_of_ble_eq_true rfl) ?_
  intro p9 e9 s9 m9 b9 t9 c9 hsz hT9 C0 hr hnm G ls hl
  have hx := C0.1.1
  have hb := C0.1.2.1
  have hl : lv_has ls 3 [(0, .ref x), (1, .ref out)] := hl
  refine lv_aload_n hx hb dL_refused_0 rfl (lv_at hl 1 rfl) ?_
  refine lv_iconst (v := 0) hx hb dL_refused_1 (by decide) ?_
  refine lv_aload_n hx hb dL_refused_2 rfl (lv_at hl 0 rfl) ?_
  refine g_cI C0 G (g_runV C0 G (rest := [.int 0, .ref out]) (K _) h_x rfl hY_X8_refused mm_L_59 mi_X8_refused ml_X8_refused ⟨(Nat.le_of_ble_eq_true rfl), (Nat.le_of_ble_eq_true rfl)⟩ rfl hl.1 rfl (Nat.le_of_ble_eq_true rfl) dL_refused_3 ⟨(Nat.le_of_ble_eq_true rfl), (Nat.le_of_ble_eq_true rfl)⟩) ?_ ?_
  · intro E9 ce9 q9 u9 H1 locs1 hpx G hce hcv hcl
    obtain rfl := hX _ _ hpx
    refine g_catch C0 hT9 [] [] (0, 8, 11, 57) rfl (fun z hz => by cases hz) rfl (by decide) mk_L_57 mca_NSE hce hcv hcl ?_
    refine lv_astore_n (lv' := [(2, .ref q9), (0, .ref x), (1, .ref out)]) hx hb dL_refused_11 rfl hl (by decide) rfl (fun ls hl => ?_)
    refine lv_iconst (v := 1) hx hb dL_refused_12 (by decide) ?_
    exact g_iret C0 G hr dL_refused_13 (Nat.le_of_ble_eq_true rfl) (Nat.le_of_ble_eq_true rfl) (by exact Or.inr (⟨rfl, hpx⟩))
  · intro r1 u2 H locs hp3 G
    have ho := hPo _ _ hp3
    refine lv_i2l (v := r1.toInt64) hx hb dL_refused_6 rfl ?_
    refine g_last C0 G ho 5 rfl (by unfold vp_in; decide) dL_refused_7 (fun H locs f7 hf7 G => ?_)
    refine lv_goto (tgt := 14) hx hb dL_refused_8 (by decide) ?_
    refine lv_iconst (v := 0) hx hb dL_refused_14 (by decide) ?_
    exact g_iret C0 G hr dL_refused_15 (Nat.le_of_ble_eq_true rfl) (Nat.le_of_ble_eq_true rfl) (by exact Or.inl ⟨rfl, _, _, hp3, hf7⟩)
set_option maxRecDepth 100000 in
theorem w_now {l : Launch} (hfl : l.stackTraces = false) {D : va_G} {cy : Nat → ClassId} {f : Hf} {sz : Nat} {x out : Nat} {fsx : List Value} {gl : Nat → Int64} {p0 : Int32} {P : Int32 → Hf → Prop} {X : String → Hf → Prop} (h_x : f x = some (.inr (10, fsx))) (K : ∀ sz, hMet l yX8_now cX8_now 2 (some .int) { frames := 8, cells := 64, slots := 600, locals := 140 } D (hTy cy) f sz [.ref x, .int p0] (hQi P D f sz) X) (hX : ∀ E u, X E u → E = "java/lang/IllegalArgumentException" ∨ E = "java/lang/IllegalStateException") (hPo : ∀ v w, P v w → w out = some (.inl (cy 5, 1, .inr (.inl gl)))) : hMetH l yL_now cL_now 4 (some .int) [((0 : Nat), (9 : Nat), (12 : Nat), (13 : Nat)), ((0 : Nat), (9 : Nat), (15 : Nat), (21 : Nat))] { frames := 9, cells := 64, slots := 600, locals := 170 } D (hTy cy) f sz [.ref x, .int p0, .ref out] (hQi (fun r u => (r = 0 ∧ ∃ v w, P v w ∧ u = va_up w out (some (.inl (cy 5, 1, .inr (.inl (vp_updL gl 0 v.toInt64)))))) ∨ (r = 1 ∧ X "java/lang/IllegalArgumentException" u) ∨ (r = 2 ∧ X "java/lang/IllegalStateException" u)) D f sz) hNo := by
  refine h_enterH (by decide) rfl hfl (Nat.le_of_ble_eq_true rfl) ?_
  intro p9 e9 s9 m9 b9 t9 c9 hsz hT9 C0 hr hnm G ls hl
  have hx := C0.1.1
  have hb := C0.1.2.1
  have hl : lv_has ls 4 [(0, .ref x), (1, .int p0), (2, .ref out)] := hl
  refine lv_aload_n hx hb dL_now_0 rfl (lv_at hl 2 rfl) ?_
  refine lv_iconst (v := 0) hx hb dL_now_1 (by decide) ?_
  refine lv_aload_n hx hb dL_now_2 rfl (lv_at hl 0 rfl) ?_
  refine lv_iload_n hx hb dL_now_3 rfl (lv_at hl 1 rfl) ?_
  refine g_cI C0 G (g_runV C0 G (rest := [.int 0, .ref out]) (K _) h_x rfl hY_X8_now mm_L_62 mi_X8_now ml_X8_now ⟨(Nat.le_of_ble_eq_true rfl), (Nat.le_of_ble_eq_true rfl)⟩ rfl hl.1 rfl (Nat.le_of_ble_eq_true rfl) dL_now_4 ⟨(Nat.le_of_ble_eq_true rfl), (Nat.le_of_ble_eq_true rfl)⟩) ?_ ?_
  · intro E9 ce9 q9 u9 H1 locs1 hpx G hce hcv hcl
    rcases hX _ _ hpx with rfl | rfl
    · refine g_catch C0 hT9 [] [(0, 9, 15, 21)] (0, 9, 12, 13) rfl (fun z hz => by cases hz) rfl (by decide) mk_L_13 mca_IAE hce hcv hcl ?_
      refine lv_astore_n (lv' := [(3, .ref q9), (0, .ref x), (1, .int p0), (2, .ref out)]) hx hb dL_now_12 rfl hl (by decide) rfl (fun ls hl => ?_)
      refine lv_iconst (v := 1) hx hb dL_now_13 (by decide) ?_
      exact g_iret C0 G hr dL_now_14 (Nat.le_of_ble_eq_true rfl) (Nat.le_of_ble_eq_true rfl) (by exact Or.inr (Or.inl ⟨rfl, hpx⟩))
    · refine g_catch C0 hT9 [(0, 9, 12, 13)] [] (0, 9, 15, 21) rfl (fun z hz => by simp only [List.mem_cons, List.not_mem_nil, or_false] at hz; subst hz; exact ⟨by decide, _, mk_L_13, by decide⟩) rfl (by decide) mk_L_21 mca_ISE hce hcv hcl ?_
      refine lv_astore_n (lv' := [(3, .ref q9), (0, .ref x), (1, .int p0), (2, .ref out)]) hx hb dL_now_15 rfl hl (by decide) rfl (fun ls hl => ?_)
      refine lv_iconst (v := 2) hx hb dL_now_16 (by decide) ?_
      exact g_iret C0 G hr dL_now_17 (Nat.le_of_ble_eq_true rfl) (Nat.le_of_ble_eq_true rfl) (by exact Or.inr (Or.inr (⟨rfl, hpx⟩)))
  · intro r1 u2 H locs hp3 G
    have ho := hPo _ _ hp3
    refine lv_i2l (v := r1.toInt64) hx hb dL_now_7 rfl ?_
    refine g_last C0 G ho 5 rfl (by unfold vp_in; decide) dL_now_8 (fun H locs f7 hf7 G => ?_)
    refine lv_goto (tgt := 18) hx hb dL_now_9 (by decide) ?_
    refine lv_iconst (v := 0) hx hb dL_now_18 (by decide) ?_
    exact g_iret C0 G hr dL_now_19 (Nat.le_of_ble_eq_true rfl) (Nat.le_of_ble_eq_true rfl) (by exact Or.inl ⟨rfl, _, _, hp3, hf7⟩)
set_option maxRecDepth 100000 in
theorem w_innings {l : Launch} (hfl : l.stackTraces = false) {D : va_G} {cy : Nat → ClassId} {f : Hf} {sz : Nat} {x out : Nat} {fsx : List Value} {gl : Nat → Int64} {p0 p1 : Int32} {P : Int32 → Hf → Prop} {X : String → Hf → Prop} (h_x : f x = some (.inr (10, fsx))) (K : ∀ sz, hMet l yX8_innings cX8_innings 3 (some .int) { frames := 8, cells := 64, slots := 600, locals := 140 } D (hTy cy) f sz [.ref x, .int p0, .int p1] (hQi P D f sz) X) (hX : ∀ E u, X E u → E = "java/lang/IndexOutOfBoundsException" ∨ E = "java/lang/IllegalArgumentException") (hPo : ∀ v w, P v w → w out = some (.inl (cy 5, 1, .inr (.inl gl)))) : hMetH l yL_innings cL_innings 5 (some .int) [((0 : Nat), (10 : Nat), (13 : Nat), (19 : Nat)), ((0 : Nat), (10 : Nat), (17 : Nat), (13 : Nat))] { frames := 9, cells := 64, slots := 600, locals := 170 } D (hTy cy) f sz [.ref x, .int p0, .int p1, .ref out] (hQi (fun r u => (r = 0 ∧ ∃ v w, P v w ∧ u = va_up w out (some (.inl (cy 5, 1, .inr (.inl (vp_updL gl 0 v.toInt64)))))) ∨ (r = 1 ∧ X "java/lang/IndexOutOfBoundsException" u) ∨ (r = 2 ∧ X "java/lang/IllegalArgumentException" u)) D f sz) hNo := by
  refine h_enterH (by decide) rfl hfl (Nat.le_of_ble_eq_true rfl) ?_
  intro p9 e9 s9 m9 b9 t9 c9 hsz hT9 C0 hr hnm G ls hl
  have hx := C0.1.1
  have hb := C0.1.2.1
  have hl : lv_has ls 5 [(0, .ref x), (1, .int p0), (2, .int p1), (3, .ref out)] := hl
  refine lv_aload_n hx hb dL_innings_0 rfl (lv_at hl 3 rfl) ?_
  refine lv_iconst (v := 0) hx hb dL_innings_1 (by decide) ?_
  refine lv_aload_n hx hb dL_innings_2 rfl (lv_at hl 0 rfl) ?_
  refine lv_iload_n hx hb dL_innings_3 rfl (lv_at hl 1 rfl) ?_
  refine lv_iload_n hx hb dL_innings_4 rfl (lv_at hl 2 rfl) ?_
  refine g_cI C0 G (g_runV C0 G (rest := [.int 0, .ref out]) (K _) h_x rfl hY_X8_innings mm_L_65 mi_X8_innings ml_X8_innings ⟨(Nat.le_of_ble_eq_true rfl), (Nat.le_of_ble_eq_true rfl)⟩ rfl hl.1 rfl (Nat.le_of_ble_eq_true rfl) dL_innings_5 ⟨(Nat.le_of_ble_eq_true rfl), (Nat.le_of_ble_eq_true rfl)⟩) ?_ ?_
  · intro E9 ce9 q9 u9 H1 locs1 hpx G hce hcv hcl
    rcases hX _ _ hpx with rfl | rfl
    · refine g_catch C0 hT9 [] [(0, 10, 17, 13)] (0, 10, 13, 19) rfl (fun z hz => by cases hz) rfl (by decide) mk_L_19 mca_IOB hce hcv hcl ?_
      refine lv_astore (lv' := [(4, .ref q9), (0, .ref x), (1, .int p0), (2, .int p1), (3, .ref out)]) hx hb dL_innings_13 hl (by decide) rfl (fun ls hl => ?_)
      refine lv_iconst (v := 1) hx hb dL_innings_15 (by decide) ?_
      exact g_iret C0 G hr dL_innings_16 (Nat.le_of_ble_eq_true rfl) (Nat.le_of_ble_eq_true rfl) (by exact Or.inr (Or.inl ⟨rfl, hpx⟩))
    · refine g_catch C0 hT9 [(0, 10, 13, 19)] [] (0, 10, 17, 13) rfl (fun z hz => by simp only [List.mem_cons, List.not_mem_nil, or_false] at hz; subst hz; exact ⟨by decide, _, mk_L_19, by decide⟩) rfl (by decide) mk_L_13 mca_IAE hce hcv hcl ?_
      refine lv_astore (lv' := [(4, .ref q9), (0, .ref x), (1, .int p0), (2, .int p1), (3, .ref out)]) hx hb dL_innings_17 hl (by decide) rfl (fun ls hl => ?_)
      refine lv_iconst (v := 2) hx hb dL_innings_19 (by decide) ?_
      exact g_iret C0 G hr dL_innings_20 (Nat.le_of_ble_eq_true rfl) (Nat.le_of_ble_eq_true rfl) (by exact Or.inr (Or.inr (⟨rfl, hpx⟩)))
  · intro r1 u2 H locs hp3 G
    have ho := hPo _ _ hp3
    refine lv_i2l (v := r1.toInt64) hx hb dL_innings_8 rfl ?_
    refine g_last C0 G ho 5 rfl (by unfold vp_in; decide) dL_innings_9 (fun H locs f7 hf7 G => ?_)
    refine lv_goto (tgt := 21) hx hb dL_innings_10 (by decide) ?_
    refine lv_iconst (v := 0) hx hb dL_innings_21 (by decide) ?_
    exact g_iret C0 G hr dL_innings_22 (Nat.le_of_ble_eq_true rfl) (Nat.le_of_ble_eq_true rfl) (by exact Or.inl ⟨rfl, _, _, hp3, hf7⟩)
set_option maxRecDepth 100000 in
theorem w_batter {l : Launch} (hfl : l.stackTraces = false) {D : va_G} {cy : Nat → ClassId} {f : Hf} {sz : Nat} {x out : Nat} {fsx : List Value} {gl : Nat → Int64} {p0 p1 p2 : Int32} {P : Int32 → Hf → Prop} {X : String → Hf → Prop} (h_x : f x = some (.inr (10, fsx))) (K : ∀ sz, hMet l yX8_batter cX8_batter 4 (some .int) { frames := 8, cells := 64, slots := 600, locals := 140 } D (hTy cy) f sz [.ref x, .int p0, .int p1, .int p2] (hQi P D f sz) X) (hX : ∀ E u, X E u → E = "java/lang/IndexOutOfBoundsException" ∨ E = "java/lang/IllegalArgumentException") (hPo : ∀ v w, P v w → w out = some (.inl (cy 5, 1, .inr (.inl gl)))) : hMetH l yL_batter cL_batter 6 (some .int) [((0 : Nat), (12 : Nat), (15 : Nat), (19 : Nat)), ((0 : Nat), (12 : Nat), (19 : Nat), (13 : Nat))] { frames := 9, cells := 64, slots := 600, locals := 170 } D (hTy cy) f sz [.ref x, .int p0, .int p1, .int p2, .ref out] (hQi (fun r u => (r = 0 ∧ ∃ v w, P v w ∧ u = va_up w out (some (.inl (cy 5, 1, .inr (.inl (vp_updL gl 0 v.toInt64)))))) ∨ (r = 1 ∧ X "java/lang/IndexOutOfBoundsException" u) ∨ (r = 2 ∧ X "java/lang/IllegalArgumentException" u)) D f sz) hNo := by
  refine h_enterH (by decide) rfl hfl (Nat.le_of_ble_eq_true rfl) ?_
  intro p9 e9 s9 m9 b9 t9 c9 hsz hT9 C0 hr hnm G ls hl
  have hx := C0.1.1
  have hb := C0.1.2.1
  have hl : lv_has ls 6 [(0, .ref x), (1, .int p0), (2, .int p1), (3, .int p2), (4, .ref out)] := hl
  refine lv_aload hx hb dL_batter_0 (lv_at hl 4 rfl) ?_
  refine lv_iconst (v := 0) hx hb dL_batter_2 (by decide) ?_
  refine lv_aload_n hx hb dL_batter_3 rfl (lv_at hl 0 rfl) ?_
  refine lv_iload_n hx hb dL_batter_4 rfl (lv_at hl 1 rfl) ?_
  refine lv_iload_n hx hb dL_batter_5 rfl (lv_at hl 2 rfl) ?_
  refine lv_iload_n hx hb dL_batter_6 rfl (lv_at hl 3 rfl) ?_
  refine g_cI C0 G (g_runV C0 G (rest := [.int 0, .ref out]) (K _) h_x rfl hY_X8_batter mm_L_69 mi_X8_batter ml_X8_batter ⟨(Nat.le_of_ble_eq_true rfl), (Nat.le_of_ble_eq_true rfl)⟩ rfl hl.1 rfl (Nat.le_of_ble_eq_true rfl) dL_batter_7 ⟨(Nat.le_of_ble_eq_true rfl), (Nat.le_of_ble_eq_true rfl)⟩) ?_ ?_
  · intro E9 ce9 q9 u9 H1 locs1 hpx G hce hcv hcl
    rcases hX _ _ hpx with rfl | rfl
    · refine g_catch C0 hT9 [] [(0, 12, 19, 13)] (0, 12, 15, 19) rfl (fun z hz => by cases hz) rfl (by decide) mk_L_19 mca_IOB hce hcv hcl ?_
      refine lv_astore (lv' := [(5, .ref q9), (0, .ref x), (1, .int p0), (2, .int p1), (3, .int p2), (4, .ref out)]) hx hb dL_batter_15 hl (by decide) rfl (fun ls hl => ?_)
      refine lv_iconst (v := 1) hx hb dL_batter_17 (by decide) ?_
      exact g_iret C0 G hr dL_batter_18 (Nat.le_of_ble_eq_true rfl) (Nat.le_of_ble_eq_true rfl) (by exact Or.inr (Or.inl ⟨rfl, hpx⟩))
    · refine g_catch C0 hT9 [(0, 12, 15, 19)] [] (0, 12, 19, 13) rfl (fun z hz => by simp only [List.mem_cons, List.not_mem_nil, or_false] at hz; subst hz; exact ⟨by decide, _, mk_L_19, by decide⟩) rfl (by decide) mk_L_13 mca_IAE hce hcv hcl ?_
      refine lv_astore (lv' := [(5, .ref q9), (0, .ref x), (1, .int p0), (2, .int p1), (3, .int p2), (4, .ref out)]) hx hb dL_batter_19 hl (by decide) rfl (fun ls hl => ?_)
      refine lv_iconst (v := 2) hx hb dL_batter_21 (by decide) ?_
      exact g_iret C0 G hr dL_batter_22 (Nat.le_of_ble_eq_true rfl) (Nat.le_of_ble_eq_true rfl) (by exact Or.inr (Or.inr (⟨rfl, hpx⟩)))
  · intro r1 u2 H locs hp3 G
    have ho := hPo _ _ hp3
    refine lv_i2l (v := r1.toInt64) hx hb dL_batter_10 rfl ?_
    refine g_last C0 G ho 5 rfl (by unfold vp_in; decide) dL_batter_11 (fun H locs f7 hf7 G => ?_)
    refine lv_goto (tgt := 23) hx hb dL_batter_12 (by decide) ?_
    refine lv_iconst (v := 0) hx hb dL_batter_23 (by decide) ?_
    exact g_iret C0 G hr dL_batter_24 (Nat.le_of_ble_eq_true rfl) (Nat.le_of_ble_eq_true rfl) (by exact Or.inl ⟨rfl, _, _, hp3, hf7⟩)
set_option maxRecDepth 100000 in
theorem w_bowler {l : Launch} (hfl : l.stackTraces = false) {D : va_G} {cy : Nat → ClassId} {f : Hf} {sz : Nat} {x out : Nat} {fsx : List Value} {gl : Nat → Int64} {p0 p1 p2 : Int32} {P : Int32 → Hf → Prop} {X : String → Hf → Prop} (h_x : f x = some (.inr (10, fsx))) (K : ∀ sz, hMet l yX8_bowler cX8_bowler 4 (some .int) { frames := 8, cells := 64, slots := 600, locals := 140 } D (hTy cy) f sz [.ref x, .int p0, .int p1, .int p2] (hQi P D f sz) X) (hX : ∀ E u, X E u → E = "java/lang/IndexOutOfBoundsException" ∨ E = "java/lang/IllegalArgumentException") (hPo : ∀ v w, P v w → w out = some (.inl (cy 5, 1, .inr (.inl gl)))) : hMetH l yL_bowler cL_bowler 6 (some .int) [((0 : Nat), (12 : Nat), (15 : Nat), (19 : Nat)), ((0 : Nat), (12 : Nat), (19 : Nat), (13 : Nat))] { frames := 9, cells := 64, slots := 600, locals := 170 } D (hTy cy) f sz [.ref x, .int p0, .int p1, .int p2, .ref out] (hQi (fun r u => (r = 0 ∧ ∃ v w, P v w ∧ u = va_up w out (some (.inl (cy 5, 1, .inr (.inl (vp_updL gl 0 v.toInt64)))))) ∨ (r = 1 ∧ X "java/lang/IndexOutOfBoundsException" u) ∨ (r = 2 ∧ X "java/lang/IllegalArgumentException" u)) D f sz) hNo := by
  refine h_enterH (by decide) rfl hfl (Nat.le_of_ble_eq_true rfl) ?_
  intro p9 e9 s9 m9 b9 t9 c9 hsz hT9 C0 hr hnm G ls hl
  have hx := C0.1.1
  have hb := C0.1.2.1
  have hl : lv_has ls 6 [(0, .ref x), (1, .int p0), (2, .int p1), (3, .int p2), (4, .ref out)] := hl
  refine lv_aload hx hb dL_bowler_0 (lv_at hl 4 rfl) ?_
  refine lv_iconst (v := 0) hx hb dL_bowler_2 (by decide) ?_
  refine lv_aload_n hx hb dL_bowler_3 rfl (lv_at hl 0 rfl) ?_
  refine lv_iload_n hx hb dL_bowler_4 rfl (lv_at hl 1 rfl) ?_
  refine lv_iload_n hx hb dL_bowler_5 rfl (lv_at hl 2 rfl) ?_
  refine lv_iload_n hx hb dL_bowler_6 rfl (lv_at hl 3 rfl) ?_
  refine g_cI C0 G (g_runV C0 G (rest := [.int 0, .ref out]) (K _) h_x rfl hY_X8_bowler mm_L_72 mi_X8_bowler ml_X8_bowler ⟨(Nat.le_of_ble_eq_true rfl), (Nat.le_of_ble_eq_true rfl)⟩ rfl hl.1 rfl (Nat.le_of_ble_eq_true rfl) dL_bowler_7 ⟨(Nat.le_of_ble_eq_true rfl), (Nat.le_of_ble_eq_true rfl)⟩) ?_ ?_
  · intro E9 ce9 q9 u9 H1 locs1 hpx G hce hcv hcl
    rcases hX _ _ hpx with rfl | rfl
    · refine g_catch C0 hT9 [] [(0, 12, 19, 13)] (0, 12, 15, 19) rfl (fun z hz => by cases hz) rfl (by decide) mk_L_19 mca_IOB hce hcv hcl ?_
      refine lv_astore (lv' := [(5, .ref q9), (0, .ref x), (1, .int p0), (2, .int p1), (3, .int p2), (4, .ref out)]) hx hb dL_bowler_15 hl (by decide) rfl (fun ls hl => ?_)
      refine lv_iconst (v := 1) hx hb dL_bowler_17 (by decide) ?_
      exact g_iret C0 G hr dL_bowler_18 (Nat.le_of_ble_eq_true rfl) (Nat.le_of_ble_eq_true rfl) (by exact Or.inr (Or.inl ⟨rfl, hpx⟩))
    · refine g_catch C0 hT9 [(0, 12, 15, 19)] [] (0, 12, 19, 13) rfl (fun z hz => by simp only [List.mem_cons, List.not_mem_nil, or_false] at hz; subst hz; exact ⟨by decide, _, mk_L_19, by decide⟩) rfl (by decide) mk_L_13 mca_IAE hce hcv hcl ?_
      refine lv_astore (lv' := [(5, .ref q9), (0, .ref x), (1, .int p0), (2, .int p1), (3, .int p2), (4, .ref out)]) hx hb dL_bowler_19 hl (by decide) rfl (fun ls hl => ?_)
      refine lv_iconst (v := 2) hx hb dL_bowler_21 (by decide) ?_
      exact g_iret C0 G hr dL_bowler_22 (Nat.le_of_ble_eq_true rfl) (Nat.le_of_ble_eq_true rfl) (by exact Or.inr (Or.inr (⟨rfl, hpx⟩)))
  · intro r1 u2 H locs hp3 G
    have ho := hPo _ _ hp3
    refine lv_i2l (v := r1.toInt64) hx hb dL_bowler_10 rfl ?_
    refine g_last C0 G ho 5 rfl (by unfold vp_in; decide) dL_bowler_11 (fun H locs f7 hf7 G => ?_)
    refine lv_goto (tgt := 23) hx hb dL_bowler_12 (by decide) ?_
    refine lv_iconst (v := 0) hx hb dL_bowler_23 (by decide) ?_
    exact g_iret C0 G hr dL_bowler_24 (Nat.le_of_ble_eq_true rfl) (Nat.le_of_ble_eq_true rfl) (by exact Or.inl ⟨rfl, _, _, hp3, hf7⟩)
set_option maxRecDepth 100000 in
theorem w_partnership {l : Launch} (hfl : l.stackTraces = false) {D : va_G} {cy : Nat → ClassId} {f : Hf} {sz : Nat} {x out : Nat} {fsx : List Value} {gl : Nat → Int64} {p0 p1 p2 : Int32} {P : Int32 → Hf → Prop} {X : String → Hf → Prop} (h_x : f x = some (.inr (10, fsx))) (K : ∀ sz, hMet l yX8_partnership cX8_partnership 4 (some .int) { frames := 8, cells := 64, slots := 600, locals := 140 } D (hTy cy) f sz [.ref x, .int p0, .int p1, .int p2] (hQi P D f sz) X) (hX : ∀ E u, X E u → E = "java/lang/IndexOutOfBoundsException" ∨ E = "java/util/NoSuchElementException" ∨ E = "java/lang/IllegalArgumentException") (hPo : ∀ v w, P v w → w out = some (.inl (cy 5, 1, .inr (.inl gl)))) : hMetH l yL_partnership cL_partnership 6 (some .int) [((0 : Nat), (12 : Nat), (15 : Nat), (19 : Nat)), ((0 : Nat), (12 : Nat), (19 : Nat), (57 : Nat)), ((0 : Nat), (12 : Nat), (23 : Nat), (13 : Nat))] { frames := 9, cells := 64, slots := 600, locals := 170 } D (hTy cy) f sz [.ref x, .int p0, .int p1, .int p2, .ref out] (hQi (fun r u => (r = 0 ∧ ∃ v w, P v w ∧ u = va_up w out (some (.inl (cy 5, 1, .inr (.inl (vp_updL gl 0 v.toInt64)))))) ∨ (r = 1 ∧ X "java/lang/IndexOutOfBoundsException" u) ∨ (r = 2 ∧ X "java/util/NoSuchElementException" u) ∨ (r = 3 ∧ X "java/lang/IllegalArgumentException" u)) D f sz) hNo := by
  refine h_enterH (by decide) rfl hfl (Nat.le_of_ble_eq_true rfl) ?_
  intro p9 e9 s9 m9 b9 t9 c9 hsz hT9 C0 hr hnm G ls hl
  have hx := C0.1.1
  have hb := C0.1.2.1
  have hl : lv_has ls 6 [(0, .ref x), (1, .int p0), (2, .int p1), (3, .int p2), (4, .ref out)] := hl
  refine lv_aload hx hb dL_partnership_0 (lv_at hl 4 rfl) ?_
  refine lv_iconst (v := 0) hx hb dL_partnership_2 (by decide) ?_
  refine lv_aload_n hx hb dL_partnership_3 rfl (lv_at hl 0 rfl) ?_
  refine lv_iload_n hx hb dL_partnership_4 rfl (lv_at hl 1 rfl) ?_
  refine lv_iload_n hx hb dL_partnership_5 rfl (lv_at hl 2 rfl) ?_
  refine lv_iload_n hx hb dL_partnership_6 rfl (lv_at hl 3 rfl) ?_
  refine g_cI C0 G (g_runV C0 G (rest := [.int 0, .ref out]) (K _) h_x rfl hY_X8_partnership mm_L_75 mi_X8_partnership ml_X8_partnership ⟨(Nat.le_of_ble_eq_true rfl), (Nat.le_of_ble_eq_true rfl)⟩ rfl hl.1 rfl (Nat.le_of_ble_eq_true rfl) dL_partnership_7 ⟨(Nat.le_of_ble_eq_true rfl), (Nat.le_of_ble_eq_true rfl)⟩) ?_ ?_
  · intro E9 ce9 q9 u9 H1 locs1 hpx G hce hcv hcl
    rcases hX _ _ hpx with rfl | rfl | rfl
    · refine g_catch C0 hT9 [] [(0, 12, 19, 57), (0, 12, 23, 13)] (0, 12, 15, 19) rfl (fun z hz => by cases hz) rfl (by decide) mk_L_19 mca_IOB hce hcv hcl ?_
      refine lv_astore (lv' := [(5, .ref q9), (0, .ref x), (1, .int p0), (2, .int p1), (3, .int p2), (4, .ref out)]) hx hb dL_partnership_15 hl (by decide) rfl (fun ls hl => ?_)
      refine lv_iconst (v := 1) hx hb dL_partnership_17 (by decide) ?_
      exact g_iret C0 G hr dL_partnership_18 (Nat.le_of_ble_eq_true rfl) (Nat.le_of_ble_eq_true rfl) (by exact Or.inr (Or.inl ⟨rfl, hpx⟩))
    · refine g_catch C0 hT9 [(0, 12, 15, 19)] [(0, 12, 23, 13)] (0, 12, 19, 57) rfl (fun z hz => by simp only [List.mem_cons, List.not_mem_nil, or_false] at hz; subst hz; exact ⟨by decide, _, mk_L_19, by decide⟩) rfl (by decide) mk_L_57 mca_NSE hce hcv hcl ?_
      refine lv_astore (lv' := [(5, .ref q9), (0, .ref x), (1, .int p0), (2, .int p1), (3, .int p2), (4, .ref out)]) hx hb dL_partnership_19 hl (by decide) rfl (fun ls hl => ?_)
      refine lv_iconst (v := 2) hx hb dL_partnership_21 (by decide) ?_
      exact g_iret C0 G hr dL_partnership_22 (Nat.le_of_ble_eq_true rfl) (Nat.le_of_ble_eq_true rfl) (by exact Or.inr (Or.inr (Or.inl ⟨rfl, hpx⟩)))
    · refine g_catch C0 hT9 [(0, 12, 15, 19), (0, 12, 19, 57)] [] (0, 12, 23, 13) rfl (fun z hz => by simp only [List.mem_cons, List.not_mem_nil, or_false] at hz; rcases hz with rfl | rfl; exact ⟨by decide, _, mk_L_19, by decide⟩; exact ⟨by decide, _, mk_L_57, by decide⟩) rfl (by decide) mk_L_13 mca_IAE hce hcv hcl ?_
      refine lv_astore (lv' := [(5, .ref q9), (0, .ref x), (1, .int p0), (2, .int p1), (3, .int p2), (4, .ref out)]) hx hb dL_partnership_23 hl (by decide) rfl (fun ls hl => ?_)
      refine lv_iconst (v := 3) hx hb dL_partnership_25 (by decide) ?_
      exact g_iret C0 G hr dL_partnership_26 (Nat.le_of_ble_eq_true rfl) (Nat.le_of_ble_eq_true rfl) (by exact Or.inr (Or.inr (Or.inr (⟨rfl, hpx⟩))))
  · intro r1 u2 H locs hp3 G
    have ho := hPo _ _ hp3
    refine lv_i2l (v := r1.toInt64) hx hb dL_partnership_10 rfl ?_
    refine g_last C0 G ho 5 rfl (by unfold vp_in; decide) dL_partnership_11 (fun H locs f7 hf7 G => ?_)
    refine lv_goto (tgt := 27) hx hb dL_partnership_12 (by decide) ?_
    refine lv_iconst (v := 0) hx hb dL_partnership_27 (by decide) ?_
    exact g_iret C0 G hr dL_partnership_28 (Nat.le_of_ble_eq_true rfl) (Nat.le_of_ble_eq_true rfl) (by exact Or.inl ⟨rfl, _, _, hp3, hf7⟩)
set_option maxRecDepth 100000 in
theorem w_fall {l : Launch} (hfl : l.stackTraces = false) {D : va_G} {cy : Nat → ClassId} {f : Hf} {sz : Nat} {x out : Nat} {fsx : List Value} {gl : Nat → Int64} {p0 p1 p2 : Int32} {P : Int32 → Hf → Prop} {X : String → Hf → Prop} (h_x : f x = some (.inr (10, fsx))) (K : ∀ sz, hMet l yX8_fall cX8_fall 4 (some .int) { frames := 8, cells := 64, slots := 600, locals := 140 } D (hTy cy) f sz [.ref x, .int p0, .int p1, .int p2] (hQi P D f sz) X) (hX : ∀ E u, X E u → E = "java/lang/IndexOutOfBoundsException" ∨ E = "java/util/NoSuchElementException" ∨ E = "java/lang/IllegalArgumentException") (hPo : ∀ v w, P v w → w out = some (.inl (cy 5, 1, .inr (.inl gl)))) : hMetH l yL_fall cL_fall 6 (some .int) [((0 : Nat), (12 : Nat), (15 : Nat), (19 : Nat)), ((0 : Nat), (12 : Nat), (19 : Nat), (57 : Nat)), ((0 : Nat), (12 : Nat), (23 : Nat), (13 : Nat))] { frames := 9, cells := 64, slots := 600, locals := 170 } D (hTy cy) f sz [.ref x, .int p0, .int p1, .int p2, .ref out] (hQi (fun r u => (r = 0 ∧ ∃ v w, P v w ∧ u = va_up w out (some (.inl (cy 5, 1, .inr (.inl (vp_updL gl 0 v.toInt64)))))) ∨ (r = 1 ∧ X "java/lang/IndexOutOfBoundsException" u) ∨ (r = 2 ∧ X "java/util/NoSuchElementException" u) ∨ (r = 3 ∧ X "java/lang/IllegalArgumentException" u)) D f sz) hNo := by
  refine h_enterH (by decide) rfl hfl (Nat.le_of_ble_eq_true rfl) ?_
  intro p9 e9 s9 m9 b9 t9 c9 hsz hT9 C0 hr hnm G ls hl
  have hx := C0.1.1
  have hb := C0.1.2.1
  have hl : lv_has ls 6 [(0, .ref x), (1, .int p0), (2, .int p1), (3, .int p2), (4, .ref out)] := hl
  refine lv_aload hx hb dL_fall_0 (lv_at hl 4 rfl) ?_
  refine lv_iconst (v := 0) hx hb dL_fall_2 (by decide) ?_
  refine lv_aload_n hx hb dL_fall_3 rfl (lv_at hl 0 rfl) ?_
  refine lv_iload_n hx hb dL_fall_4 rfl (lv_at hl 1 rfl) ?_
  refine lv_iload_n hx hb dL_fall_5 rfl (lv_at hl 2 rfl) ?_
  refine lv_iload_n hx hb dL_fall_6 rfl (lv_at hl 3 rfl) ?_
  refine g_cI C0 G (g_runV C0 G (rest := [.int 0, .ref out]) (K _) h_x rfl hY_X8_fall mm_L_78 mi_X8_fall ml_X8_fall ⟨(Nat.le_of_ble_eq_true rfl), (Nat.le_of_ble_eq_true rfl)⟩ rfl hl.1 rfl (Nat.le_of_ble_eq_true rfl) dL_fall_7 ⟨(Nat.le_of_ble_eq_true rfl), (Nat.le_of_ble_eq_true rfl)⟩) ?_ ?_
  · intro E9 ce9 q9 u9 H1 locs1 hpx G hce hcv hcl
    rcases hX _ _ hpx with rfl | rfl | rfl
    · refine g_catch C0 hT9 [] [(0, 12, 19, 57), (0, 12, 23, 13)] (0, 12, 15, 19) rfl (fun z hz => by cases hz) rfl (by decide) mk_L_19 mca_IOB hce hcv hcl ?_
      refine lv_astore (lv' := [(5, .ref q9), (0, .ref x), (1, .int p0), (2, .int p1), (3, .int p2), (4, .ref out)]) hx hb dL_fall_15 hl (by decide) rfl (fun ls hl => ?_)
      refine lv_iconst (v := 1) hx hb dL_fall_17 (by decide) ?_
      exact g_iret C0 G hr dL_fall_18 (Nat.le_of_ble_eq_true rfl) (Nat.le_of_ble_eq_true rfl) (by exact Or.inr (Or.inl ⟨rfl, hpx⟩))
    · refine g_catch C0 hT9 [(0, 12, 15, 19)] [(0, 12, 23, 13)] (0, 12, 19, 57) rfl (fun z hz => by simp only [List.mem_cons, List.not_mem_nil, or_false] at hz; subst hz; exact ⟨by decide, _, mk_L_19, by decide⟩) rfl (by decide) mk_L_57 mca_NSE hce hcv hcl ?_
      refine lv_astore (lv' := [(5, .ref q9), (0, .ref x), (1, .int p0), (2, .int p1), (3, .int p2), (4, .ref out)]) hx hb dL_fall_19 hl (by decide) rfl (fun ls hl => ?_)
      refine lv_iconst (v := 2) hx hb dL_fall_21 (by decide) ?_
      exact g_iret C0 G hr dL_fall_22 (Nat.le_of_ble_eq_true rfl) (Nat.le_of_ble_eq_true rfl) (by exact Or.inr (Or.inr (Or.inl ⟨rfl, hpx⟩)))
    · refine g_catch C0 hT9 [(0, 12, 15, 19), (0, 12, 19, 57)] [] (0, 12, 23, 13) rfl (fun z hz => by simp only [List.mem_cons, List.not_mem_nil, or_false] at hz; rcases hz with rfl | rfl; exact ⟨by decide, _, mk_L_19, by decide⟩; exact ⟨by decide, _, mk_L_57, by decide⟩) rfl (by decide) mk_L_13 mca_IAE hce hcv hcl ?_
      refine lv_astore (lv' := [(5, .ref q9), (0, .ref x), (1, .int p0), (2, .int p1), (3, .int p2), (4, .ref out)]) hx hb dL_fall_23 hl (by decide) rfl (fun ls hl => ?_)
      refine lv_iconst (v := 3) hx hb dL_fall_25 (by decide) ?_
      exact g_iret C0 G hr dL_fall_26 (Nat.le_of_ble_eq_true rfl) (Nat.le_of_ble_eq_true rfl) (by exact Or.inr (Or.inr (Or.inr (⟨rfl, hpx⟩))))
  · intro r1 u2 H locs hp3 G
    have ho := hPo _ _ hp3
    refine lv_i2l (v := r1.toInt64) hx hb dL_fall_10 rfl ?_
    refine g_last C0 G ho 5 rfl (by unfold vp_in; decide) dL_fall_11 (fun H locs f7 hf7 G => ?_)
    refine lv_goto (tgt := 27) hx hb dL_fall_12 (by decide) ?_
    refine lv_iconst (v := 0) hx hb dL_fall_27 (by decide) ?_
    exact g_iret C0 G hr dL_fall_28 (Nat.le_of_ble_eq_true rfl) (Nat.le_of_ble_eq_true rfl) (by exact Or.inl ⟨rfl, _, _, hp3, hf7⟩)
set_option maxRecDepth 100000 in
theorem w_needed {l : Launch} (hfl : l.stackTraces = false) {D : va_G} {cy : Nat → ClassId} {f : Hf} {sz : Nat} {x out : Nat} {fsx : List Value} {gl : Nat → Int64} {p0 : Int32} {P : Int32 → Hf → Prop} {X : String → Hf → Prop} (h_x : f x = some (.inr (10, fsx))) (K : ∀ sz, hMet l yX8_needed cX8_needed 3 (some .int) { frames := 8, cells := 64, slots := 600, locals := 140 } D (hTy cy) f sz [.ref x, .int p0] (hQi P D f sz) X) (hX : ∀ E u, X E u → E = "java/lang/IllegalStateException" ∨ E = "java/util/NoSuchElementException") (hPo : ∀ v w, P v w → w out = some (.inl (cy 5, 1, .inr (.inl gl)))) : hMetH l yL_needed cL_needed 4 (some .int) [((0 : Nat), (9 : Nat), (12 : Nat), (21 : Nat)), ((0 : Nat), (9 : Nat), (15 : Nat), (57 : Nat))] { frames := 9, cells := 64, slots := 600, locals := 170 } D (hTy cy) f sz [.ref x, .int p0, .ref out] (hQi (fun r u => (r = 0 ∧ ∃ v w, P v w ∧ u = va_up w out (some (.inl (cy 5, 1, .inr (.inl (vp_updL gl 0 v.toInt64)))))) ∨ (r = 1 ∧ X "java/lang/IllegalStateException" u) ∨ (r = 2 ∧ X "java/util/NoSuchElementException" u)) D f sz) hNo := by
  refine h_enterH (by decide) rfl hfl (Nat.le_of_ble_eq_true rfl) ?_
  intro p9 e9 s9 m9 b9 t9 c9 hsz hT9 C0 hr hnm G ls hl
  have hx := C0.1.1
  have hb := C0.1.2.1
  have hl : lv_has ls 4 [(0, .ref x), (1, .int p0), (2, .ref out)] := hl
  refine lv_aload_n hx hb dL_needed_0 rfl (lv_at hl 2 rfl) ?_
  refine lv_iconst (v := 0) hx hb dL_needed_1 (by decide) ?_
  refine lv_aload_n hx hb dL_needed_2 rfl (lv_at hl 0 rfl) ?_
  refine lv_iload_n hx hb dL_needed_3 rfl (lv_at hl 1 rfl) ?_
  refine g_cI C0 G (g_runV C0 G (rest := [.int 0, .ref out]) (K _) h_x rfl hY_X8_needed mm_L_81 mi_X8_needed ml_X8_needed ⟨(Nat.le_of_ble_eq_true rfl), (Nat.le_of_ble_eq_true rfl)⟩ rfl hl.1 rfl (Nat.le_of_ble_eq_true rfl) dL_needed_4 ⟨(Nat.le_of_ble_eq_true rfl), (Nat.le_of_ble_eq_true rfl)⟩) ?_ ?_
  · intro E9 ce9 q9 u9 H1 locs1 hpx G hce hcv hcl
    rcases hX _ _ hpx with rfl | rfl
    · refine g_catch C0 hT9 [] [(0, 9, 15, 57)] (0, 9, 12, 21) rfl (fun z hz => by cases hz) rfl (by decide) mk_L_21 mca_ISE hce hcv hcl ?_
      refine lv_astore_n (lv' := [(3, .ref q9), (0, .ref x), (1, .int p0), (2, .ref out)]) hx hb dL_needed_12 rfl hl (by decide) rfl (fun ls hl => ?_)
      refine lv_iconst (v := 1) hx hb dL_needed_13 (by decide) ?_
      exact g_iret C0 G hr dL_needed_14 (Nat.le_of_ble_eq_true rfl) (Nat.le_of_ble_eq_true rfl) (by exact Or.inr (Or.inl ⟨rfl, hpx⟩))
    · refine g_catch C0 hT9 [(0, 9, 12, 21)] [] (0, 9, 15, 57) rfl (fun z hz => by simp only [List.mem_cons, List.not_mem_nil, or_false] at hz; subst hz; exact ⟨by decide, _, mk_L_21, by decide⟩) rfl (by decide) mk_L_57 mca_NSE hce hcv hcl ?_
      refine lv_astore_n (lv' := [(3, .ref q9), (0, .ref x), (1, .int p0), (2, .ref out)]) hx hb dL_needed_15 rfl hl (by decide) rfl (fun ls hl => ?_)
      refine lv_iconst (v := 2) hx hb dL_needed_16 (by decide) ?_
      exact g_iret C0 G hr dL_needed_17 (Nat.le_of_ble_eq_true rfl) (Nat.le_of_ble_eq_true rfl) (by exact Or.inr (Or.inr (⟨rfl, hpx⟩)))
  · intro r1 u2 H locs hp3 G
    have ho := hPo _ _ hp3
    refine lv_i2l (v := r1.toInt64) hx hb dL_needed_7 rfl ?_
    refine g_last C0 G ho 5 rfl (by unfold vp_in; decide) dL_needed_8 (fun H locs f7 hf7 G => ?_)
    refine lv_goto (tgt := 18) hx hb dL_needed_9 (by decide) ?_
    refine lv_iconst (v := 0) hx hb dL_needed_18 (by decide) ?_
    exact g_iret C0 G hr dL_needed_19 (Nat.le_of_ble_eq_true rfl) (Nat.le_of_ble_eq_true rfl) (by exact Or.inl ⟨rfl, _, _, hp3, hf7⟩)
set_option maxRecDepth 100000 in
theorem w_runRate {l : Launch} (hfl : l.stackTraces = false) {D : va_G} {cy : Nat → ClassId} {f : Hf} {sz : Nat} {x out : Nat} {fsx : List Value} {gl : Nat → UInt64} {p0 : Int32} {P : UInt64 → Hf → Prop} {X : String → Hf → Prop} (h_x : f x = some (.inr (10, fsx))) (K : ∀ sz, hMet l yX8_runRate cX8_runRate 3 (some .double) { frames := 8, cells := 64, slots := 600, locals := 140 } D (hTy cy) f sz [.ref x, .int p0] (hQd P D f sz) X) (hX : ∀ E u, X E u → E = "java/lang/IndexOutOfBoundsException" ∨ E = "java/lang/ArithmeticException") (hPo : ∀ v w, P v w → w out = some (.inl (cy 6, 1, .inr (.inr (.inr (.inl gl)))))) : hMetH l yL_runRate cL_runRate 4 (some .int) [((0 : Nat), (8 : Nat), (11 : Nat), (19 : Nat)), ((0 : Nat), (8 : Nat), (14 : Nat), (89 : Nat))] { frames := 9, cells := 64, slots := 600, locals := 170 } D (hTy cy) f sz [.ref x, .int p0, .ref out] (hQi (fun r u => (r = 0 ∧ ∃ v w, P v w ∧ u = va_up w out (some (.inl (cy 6, 1, .inr (.inr (.inr (.inl (vf_upd gl 0 v)))))))) ∨ (r = 1 ∧ X "java/lang/IndexOutOfBoundsException" u) ∨ (r = 2 ∧ X "java/lang/ArithmeticException" u)) D f sz) hNo := by
  refine h_enterH (by decide) rfl hfl (Nat.le_of_ble_eq_true rfl) ?_
  intro p9 e9 s9 m9 b9 t9 c9 hsz hT9 C0 hr hnm G ls hl
  have hx := C0.1.1
  have hb := C0.1.2.1
  have hl : lv_has ls 4 [(0, .ref x), (1, .int p0), (2, .ref out)] := hl
  refine lv_aload_n hx hb dL_runRate_0 rfl (lv_at hl 2 rfl) ?_
  refine lv_iconst (v := 0) hx hb dL_runRate_1 (by decide) ?_
  refine lv_aload_n hx hb dL_runRate_2 rfl (lv_at hl 0 rfl) ?_
  refine lv_iload_n hx hb dL_runRate_3 rfl (lv_at hl 1 rfl) ?_
  refine g_cD C0 G (g_runV C0 G (rest := [.int 0, .ref out]) (K _) h_x rfl hY_X8_runRate mm_L_85 mi_X8_runRate ml_X8_runRate ⟨(Nat.le_of_ble_eq_true rfl), (Nat.le_of_ble_eq_true rfl)⟩ rfl hl.1 rfl (Nat.le_of_ble_eq_true rfl) dL_runRate_4 ⟨(Nat.le_of_ble_eq_true rfl), (Nat.le_of_ble_eq_true rfl)⟩) ?_ ?_
  · intro E9 ce9 q9 u9 H1 locs1 hpx G hce hcv hcl
    rcases hX _ _ hpx with rfl | rfl
    · refine g_catch C0 hT9 [] [(0, 8, 14, 89)] (0, 8, 11, 19) rfl (fun z hz => by cases hz) rfl (by decide) mk_L_19 mca_IOB hce hcv hcl ?_
      refine lv_astore_n (lv' := [(3, .ref q9), (0, .ref x), (1, .int p0), (2, .ref out)]) hx hb dL_runRate_11 rfl hl (by decide) rfl (fun ls hl => ?_)
      refine lv_iconst (v := 1) hx hb dL_runRate_12 (by decide) ?_
      exact g_iret C0 G hr dL_runRate_13 (Nat.le_of_ble_eq_true rfl) (Nat.le_of_ble_eq_true rfl) (by exact Or.inr (Or.inl ⟨rfl, hpx⟩))
    · refine g_catch C0 hT9 [(0, 8, 11, 19)] [] (0, 8, 14, 89) rfl (fun z hz => by simp only [List.mem_cons, List.not_mem_nil, or_false] at hz; subst hz; exact ⟨by decide, _, mk_L_19, by decide⟩) rfl (by decide) mk_L_89 mca_ARE hce hcv hcl ?_
      refine lv_astore_n (lv' := [(3, .ref q9), (0, .ref x), (1, .int p0), (2, .ref out)]) hx hb dL_runRate_14 rfl hl (by decide) rfl (fun ls hl => ?_)
      refine lv_iconst (v := 2) hx hb dL_runRate_15 (by decide) ?_
      exact g_iret C0 G hr dL_runRate_16 (Nat.le_of_ble_eq_true rfl) (Nat.le_of_ble_eq_true rfl) (by exact Or.inr (Or.inr (⟨rfl, hpx⟩)))
  · intro r1 u2 H locs hp3 G
    have ho := hPo _ _ hp3
    refine g_dast C0 G ho 6 rfl (by unfold vp_in; decide) dL_runRate_7 (fun H locs f7 hf7 G => ?_)
    refine lv_goto (tgt := 17) hx hb dL_runRate_8 (by decide) ?_
    refine lv_iconst (v := 0) hx hb dL_runRate_17 (by decide) ?_
    exact g_iret C0 G hr dL_runRate_18 (Nat.le_of_ble_eq_true rfl) (Nat.le_of_ble_eq_true rfl) (by exact Or.inl ⟨rfl, _, _, hp3, hf7⟩)
set_option maxRecDepth 100000 in
theorem w_strikeRate {l : Launch} (hfl : l.stackTraces = false) {D : va_G} {cy : Nat → ClassId} {f : Hf} {sz : Nat} {x out : Nat} {fsx : List Value} {gl : Nat → UInt64} {p0 p1 : Int32} {P : UInt32 → Hf → Prop} {X : String → Hf → Prop} (h_x : f x = some (.inr (10, fsx))) (K : ∀ sz, hMet l yX8_strikeRate cX8_strikeRate 5 (some .float) { frames := 8, cells := 64, slots := 600, locals := 140 } D (hTy cy) f sz [.ref x, .int p0, .int p1] (hQf P D f sz) X) (hX : ∀ E u, X E u → E = "java/lang/IndexOutOfBoundsException" ∨ E = "java/lang/ArithmeticException") (hPo : ∀ v w, P v w → w out = some (.inl (cy 6, 1, .inr (.inr (.inr (.inl gl)))))) (hNN : ∀ v w, P v w → vf_n64 (FP.f2d v)) : hMetH l yL_strikeRate cL_strikeRate 5 (some .int) [((0 : Nat), (10 : Nat), (13 : Nat), (19 : Nat)), ((0 : Nat), (10 : Nat), (17 : Nat), (89 : Nat))] { frames := 9, cells := 64, slots := 600, locals := 170 } D (hTy cy) f sz [.ref x, .int p0, .int p1, .ref out] (hQi (fun r u => (r = 0 ∧ ∃ v w, P v w ∧ u = va_up w out (some (.inl (cy 6, 1, .inr (.inr (.inr (.inl (vf_upd gl 0 (FP.f2d v))))))))) ∨ (r = 1 ∧ X "java/lang/IndexOutOfBoundsException" u) ∨ (r = 2 ∧ X "java/lang/ArithmeticException" u)) D f sz) hNo := by
  refine h_enterH (by decide) rfl hfl (Nat.le_of_ble_eq_true rfl) ?_
  intro p9 e9 s9 m9 b9 t9 c9 hsz hT9 C0 hr hnm G ls hl
  have hx := C0.1.1
  have hb := C0.1.2.1
  have hl : lv_has ls 5 [(0, .ref x), (1, .int p0), (2, .int p1), (3, .ref out)] := hl
  refine lv_aload_n hx hb dL_strikeRate_0 rfl (lv_at hl 3 rfl) ?_
  refine lv_iconst (v := 0) hx hb dL_strikeRate_1 (by decide) ?_
  refine lv_aload_n hx hb dL_strikeRate_2 rfl (lv_at hl 0 rfl) ?_
  refine lv_iload_n hx hb dL_strikeRate_3 rfl (lv_at hl 1 rfl) ?_
  refine lv_iload_n hx hb dL_strikeRate_4 rfl (lv_at hl 2 rfl) ?_
  refine g_cF C0 G (g_runV C0 G (rest := [.int 0, .ref out]) (K _) h_x rfl hY_X8_strikeRate mm_L_91 mi_X8_strikeRate ml_X8_strikeRate ⟨(Nat.le_of_ble_eq_true rfl), (Nat.le_of_ble_eq_true rfl)⟩ rfl hl.1 rfl (Nat.le_of_ble_eq_true rfl) dL_strikeRate_5 ⟨(Nat.le_of_ble_eq_true rfl), (Nat.le_of_ble_eq_true rfl)⟩) ?_ ?_
  · intro E9 ce9 q9 u9 H1 locs1 hpx G hce hcv hcl
    rcases hX _ _ hpx with rfl | rfl
    · refine g_catch C0 hT9 [] [(0, 10, 17, 89)] (0, 10, 13, 19) rfl (fun z hz => by cases hz) rfl (by decide) mk_L_19 mca_IOB hce hcv hcl ?_
      refine lv_astore (lv' := [(4, .ref q9), (0, .ref x), (1, .int p0), (2, .int p1), (3, .ref out)]) hx hb dL_strikeRate_13 hl (by decide) rfl (fun ls hl => ?_)
      refine lv_iconst (v := 1) hx hb dL_strikeRate_15 (by decide) ?_
      exact g_iret C0 G hr dL_strikeRate_16 (Nat.le_of_ble_eq_true rfl) (Nat.le_of_ble_eq_true rfl) (by exact Or.inr (Or.inl ⟨rfl, hpx⟩))
    · refine g_catch C0 hT9 [(0, 10, 13, 19)] [] (0, 10, 17, 89) rfl (fun z hz => by simp only [List.mem_cons, List.not_mem_nil, or_false] at hz; subst hz; exact ⟨by decide, _, mk_L_19, by decide⟩) rfl (by decide) mk_L_89 mca_ARE hce hcv hcl ?_
      refine lv_astore (lv' := [(4, .ref q9), (0, .ref x), (1, .int p0), (2, .int p1), (3, .ref out)]) hx hb dL_strikeRate_17 hl (by decide) rfl (fun ls hl => ?_)
      refine lv_iconst (v := 2) hx hb dL_strikeRate_19 (by decide) ?_
      exact g_iret C0 G hr dL_strikeRate_20 (Nat.le_of_ble_eq_true rfl) (Nat.le_of_ble_eq_true rfl) (by exact Or.inr (Or.inr (⟨rfl, hpx⟩)))
  · intro r1 u2 H locs hp3 G
    have ho := hPo _ _ hp3
    refine lv_f2d hx hb dL_strikeRate_8 (hNN _ _ hp3) ?_
    refine g_dast C0 G ho 6 rfl (by unfold vp_in; decide) dL_strikeRate_9 (fun H locs f7 hf7 G => ?_)
    refine lv_goto (tgt := 21) hx hb dL_strikeRate_10 (by decide) ?_
    refine lv_iconst (v := 0) hx hb dL_strikeRate_21 (by decide) ?_
    exact g_iret C0 G hr dL_strikeRate_22 (Nat.le_of_ble_eq_true rfl) (Nat.le_of_ble_eq_true rfl) (by exact Or.inl ⟨rfl, _, _, hp3, hf7⟩)
set_option maxRecDepth 100000 in
theorem w_storeOvers {l : Launch} (hfl : l.stackTraces = false) {D : va_G} {cy : Nat → ClassId} {f : Hf} {sz : Nat} {x out : Nat} {fsx : List Value} {gl : Nat → Int64} {p0 p1 p2 : Int32} {P : Int32 → Hf → Prop} {X : String → Hf → Prop} (h_x : f x = some (.inr (10, fsx))) (K : ∀ sz, hMet l yX8_storeOvers cX8_storeOvers 4 (some .int) { frames := 8, cells := 64, slots := 600, locals := 140 } D (hTy cy) f sz [.ref x, .int p0, .int p1, .int p2] (hQi P D f sz) X) (hX : ∀ E u, X E u → E = "java/lang/IndexOutOfBoundsException") (hPo : ∀ v w, P v w → w out = some (.inl (cy 5, 1, .inr (.inl gl)))) : hMetH l yL_storeOvers cL_storeOvers 6 (some .int) [((0 : Nat), (12 : Nat), (15 : Nat), (19 : Nat))] { frames := 9, cells := 64, slots := 600, locals := 170 } D (hTy cy) f sz [.ref x, .int p0, .int p1, .int p2, .ref out] (hQi (fun r u => (r = 0 ∧ ∃ v w, P v w ∧ u = va_up w out (some (.inl (cy 5, 1, .inr (.inl (vp_updL gl 0 v.toInt64)))))) ∨ (r = 1 ∧ X "java/lang/IndexOutOfBoundsException" u)) D f sz) hNo := by
  refine h_enterH (by decide) rfl hfl (Nat.le_of_ble_eq_true rfl) ?_
  intro p9 e9 s9 m9 b9 t9 c9 hsz hT9 C0 hr hnm G ls hl
  have hx := C0.1.1
  have hb := C0.1.2.1
  have hl : lv_has ls 6 [(0, .ref x), (1, .int p0), (2, .int p1), (3, .int p2), (4, .ref out)] := hl
  refine lv_aload hx hb dL_storeOvers_0 (lv_at hl 4 rfl) ?_
  refine lv_iconst (v := 0) hx hb dL_storeOvers_2 (by decide) ?_
  refine lv_aload_n hx hb dL_storeOvers_3 rfl (lv_at hl 0 rfl) ?_
  refine lv_iload_n hx hb dL_storeOvers_4 rfl (lv_at hl 1 rfl) ?_
  refine lv_iload_n hx hb dL_storeOvers_5 rfl (lv_at hl 2 rfl) ?_
  refine lv_iload_n hx hb dL_storeOvers_6 rfl (lv_at hl 3 rfl) ?_
  refine g_cI C0 G (g_runV C0 G (rest := [.int 0, .ref out]) (K _) h_x rfl hY_X8_storeOvers mm_L_95 mi_X8_storeOvers ml_X8_storeOvers ⟨(Nat.le_of_ble_eq_true rfl), (Nat.le_of_ble_eq_true rfl)⟩ rfl hl.1 rfl (Nat.le_of_ble_eq_true rfl) dL_storeOvers_7 ⟨(Nat.le_of_ble_eq_true rfl), (Nat.le_of_ble_eq_true rfl)⟩) ?_ ?_
  · intro E9 ce9 q9 u9 H1 locs1 hpx G hce hcv hcl
    obtain rfl := hX _ _ hpx
    refine g_catch C0 hT9 [] [] (0, 12, 15, 19) rfl (fun z hz => by cases hz) rfl (by decide) mk_L_19 mca_IOB hce hcv hcl ?_
    refine lv_astore (lv' := [(5, .ref q9), (0, .ref x), (1, .int p0), (2, .int p1), (3, .int p2), (4, .ref out)]) hx hb dL_storeOvers_15 hl (by decide) rfl (fun ls hl => ?_)
    refine lv_iconst (v := 1) hx hb dL_storeOvers_17 (by decide) ?_
    exact g_iret C0 G hr dL_storeOvers_18 (Nat.le_of_ble_eq_true rfl) (Nat.le_of_ble_eq_true rfl) (by exact Or.inr (⟨rfl, hpx⟩))
  · intro r1 u2 H locs hp3 G
    have ho := hPo _ _ hp3
    refine lv_i2l (v := r1.toInt64) hx hb dL_storeOvers_10 rfl ?_
    refine g_last C0 G ho 5 rfl (by unfold vp_in; decide) dL_storeOvers_11 (fun H locs f7 hf7 G => ?_)
    refine lv_goto (tgt := 19) hx hb dL_storeOvers_12 (by decide) ?_
    refine lv_iconst (v := 0) hx hb dL_storeOvers_19 (by decide) ?_
    exact g_iret C0 G hr dL_storeOvers_20 (Nat.le_of_ble_eq_true rfl) (Nat.le_of_ble_eq_true rfl) (by exact Or.inl ⟨rfl, _, _, hp3, hf7⟩)
set_option maxRecDepth 100000 in
theorem w_copyOvers {l : Launch} (hfl : l.stackTraces = false) {D : va_G} {cy : Nat → ClassId} {f : Hf} {sz : Nat} {x out : Nat} {fsx : List Value} {gl : Nat → Int64} {p0 p1 : Int32} {P : Int32 → Hf → Prop} {X : String → Hf → Prop} (h_x : f x = some (.inr (10, fsx))) (K : ∀ sz, hMet l yX8_copyOvers cX8_copyOvers 5 (some .boolean) { frames := 8, cells := 64, slots := 600, locals := 140 } D (hTy cy) f sz [.ref x, .int p0, .int p1] (hQi P D f sz) X) (hX : ∀ E u, X E u → E = "java/lang/IndexOutOfBoundsException" ∨ E = "java/util/NoSuchElementException" ∨ E = "java/lang/UnsupportedOperationException" ∨ E = "java/lang/IllegalArgumentException") (hPo : ∀ v w, P v w → w out = some (.inl (cy 5, 1, .inr (.inl gl)))) : hMetH l yL_copyOvers cL_copyOvers 5 (some .int) [((0 : Nat), (17 : Nat), (20 : Nat), (19 : Nat)), ((0 : Nat), (17 : Nat), (24 : Nat), (57 : Nat)), ((0 : Nat), (17 : Nat), (28 : Nat), (49 : Nat)), ((0 : Nat), (17 : Nat), (32 : Nat), (13 : Nat))] { frames := 9, cells := 64, slots := 600, locals := 170 } D (hTy cy) f sz [.ref x, .int p0, .int p1, .ref out] (hQi (fun r u => (r = 0 ∧ ∃ v w, P v w ∧ u = va_up w out (some (.inl (cy 5, 1, .inr (.inl (vp_updL gl 0 (if v = 0 then 0 else 1))))))) ∨ (r = 1 ∧ X "java/lang/IndexOutOfBoundsException" u) ∨ (r = 2 ∧ X "java/util/NoSuchElementException" u) ∨ (r = 3 ∧ X "java/lang/UnsupportedOperationException" u) ∨ (r = 4 ∧ X "java/lang/IllegalArgumentException" u)) D f sz) hNo := by
  refine h_enterH (by decide) rfl hfl (Nat.le_of_ble_eq_true rfl) ?_
  intro p9 e9 s9 m9 b9 t9 c9 hsz hT9 C0 hr hnm G ls hl
  have hx := C0.1.1
  have hb := C0.1.2.1
  have hl : lv_has ls 5 [(0, .ref x), (1, .int p0), (2, .int p1), (3, .ref out)] := hl
  refine lv_aload_n hx hb dL_copyOvers_0 rfl (lv_at hl 3 rfl) ?_
  refine lv_iconst (v := 0) hx hb dL_copyOvers_1 (by decide) ?_
  refine lv_aload_n hx hb dL_copyOvers_2 rfl (lv_at hl 0 rfl) ?_
  refine lv_iload_n hx hb dL_copyOvers_3 rfl (lv_at hl 1 rfl) ?_
  refine lv_iload_n hx hb dL_copyOvers_4 rfl (lv_at hl 2 rfl) ?_
  refine g_cI C0 G (g_runV C0 G (rest := [.int 0, .ref out]) (K _) h_x rfl hY_X8_copyOvers mm_L_98 mi_X8_copyOvers ml_X8_copyOvers ⟨(Nat.le_of_ble_eq_true rfl), (Nat.le_of_ble_eq_true rfl)⟩ rfl hl.1 rfl (Nat.le_of_ble_eq_true rfl) dL_copyOvers_5 ⟨(Nat.le_of_ble_eq_true rfl), (Nat.le_of_ble_eq_true rfl)⟩) ?_ ?_
  · intro E9 ce9 q9 u9 H1 locs1 hpx G hce hcv hcl
    rcases hX _ _ hpx with rfl | rfl | rfl | rfl
    · refine g_catch C0 hT9 [] [(0, 17, 24, 57), (0, 17, 28, 49), (0, 17, 32, 13)] (0, 17, 20, 19) rfl (fun z hz => by cases hz) rfl (by decide) mk_L_19 mca_IOB hce hcv hcl ?_
      refine lv_astore (lv' := [(4, .ref q9), (0, .ref x), (1, .int p0), (2, .int p1), (3, .ref out)]) hx hb dL_copyOvers_20 hl (by decide) rfl (fun ls hl => ?_)
      refine lv_iconst (v := 1) hx hb dL_copyOvers_22 (by decide) ?_
      exact g_iret C0 G hr dL_copyOvers_23 (Nat.le_of_ble_eq_true rfl) (Nat.le_of_ble_eq_true rfl) (by exact Or.inr (Or.inl ⟨rfl, hpx⟩))
    · refine g_catch C0 hT9 [(0, 17, 20, 19)] [(0, 17, 28, 49), (0, 17, 32, 13)] (0, 17, 24, 57) rfl (fun z hz => by simp only [List.mem_cons, List.not_mem_nil, or_false] at hz; subst hz; exact ⟨by decide, _, mk_L_19, by decide⟩) rfl (by decide) mk_L_57 mca_NSE hce hcv hcl ?_
      refine lv_astore (lv' := [(4, .ref q9), (0, .ref x), (1, .int p0), (2, .int p1), (3, .ref out)]) hx hb dL_copyOvers_24 hl (by decide) rfl (fun ls hl => ?_)
      refine lv_iconst (v := 2) hx hb dL_copyOvers_26 (by decide) ?_
      exact g_iret C0 G hr dL_copyOvers_27 (Nat.le_of_ble_eq_true rfl) (Nat.le_of_ble_eq_true rfl) (by exact Or.inr (Or.inr (Or.inl ⟨rfl, hpx⟩)))
    · refine g_catch C0 hT9 [(0, 17, 20, 19), (0, 17, 24, 57)] [(0, 17, 32, 13)] (0, 17, 28, 49) rfl (fun z hz => by simp only [List.mem_cons, List.not_mem_nil, or_false] at hz; rcases hz with rfl | rfl; exact ⟨by decide, _, mk_L_19, by decide⟩; exact ⟨by decide, _, mk_L_57, by decide⟩) rfl (by decide) mk_L_49 mca_UOE hce hcv hcl ?_
      refine lv_astore (lv' := [(4, .ref q9), (0, .ref x), (1, .int p0), (2, .int p1), (3, .ref out)]) hx hb dL_copyOvers_28 hl (by decide) rfl (fun ls hl => ?_)
      refine lv_iconst (v := 3) hx hb dL_copyOvers_30 (by decide) ?_
      exact g_iret C0 G hr dL_copyOvers_31 (Nat.le_of_ble_eq_true rfl) (Nat.le_of_ble_eq_true rfl) (by exact Or.inr (Or.inr (Or.inr (Or.inl ⟨rfl, hpx⟩))))
    · refine g_catch C0 hT9 [(0, 17, 20, 19), (0, 17, 24, 57), (0, 17, 28, 49)] [] (0, 17, 32, 13) rfl (fun z hz => by simp only [List.mem_cons, List.not_mem_nil, or_false] at hz; rcases hz with rfl | rfl | rfl; exact ⟨by decide, _, mk_L_19, by decide⟩; exact ⟨by decide, _, mk_L_57, by decide⟩; exact ⟨by decide, _, mk_L_49, by decide⟩) rfl (by decide) mk_L_13 mca_IAE hce hcv hcl ?_
      refine lv_astore (lv' := [(4, .ref q9), (0, .ref x), (1, .int p0), (2, .int p1), (3, .ref out)]) hx hb dL_copyOvers_32 hl (by decide) rfl (fun ls hl => ?_)
      refine lv_iconst (v := 4) hx hb dL_copyOvers_34 (by decide) ?_
      exact g_iret C0 G hr dL_copyOvers_35 (Nat.le_of_ble_eq_true rfl) (Nat.le_of_ble_eq_true rfl) (by exact Or.inr (Or.inr (Or.inr (Or.inr (⟨rfl, hpx⟩)))))
  · intro r1 u2 H locs hp3 G
    have ho := hPo _ _ hp3
    refine lv_if_eq (tgt := 15) hx hb dL_copyOvers_8 (by decide) (fun c9 => ?_) (fun c9 => ?_)
    · refine lv_lconst (v := 0) hx hb dL_copyOvers_15 (by decide) ?_
      refine g_last C0 G ho 5 rfl (by unfold vp_in; decide) dL_copyOvers_16 (fun H locs f7 hf7 G => ?_)
      refine lv_goto (tgt := 36) hx hb dL_copyOvers_17 (by decide) ?_
      refine lv_iconst (v := 0) hx hb dL_copyOvers_36 (by decide) ?_
      exact g_iret C0 G hr dL_copyOvers_37 (Nat.le_of_ble_eq_true rfl) (Nat.le_of_ble_eq_true rfl) (by exact Or.inl ⟨rfl, _, _, hp3, by rw [hf7, if_pos c9]; rfl⟩)
    · refine lv_lconst (v := 1) hx hb dL_copyOvers_11 (by decide) ?_
      refine lv_goto (tgt := 16) hx hb dL_copyOvers_12 (by decide) ?_
      refine g_last C0 G ho 5 rfl (by unfold vp_in; decide) dL_copyOvers_16 (fun H locs f7 hf7 G => ?_)
      refine lv_goto (tgt := 36) hx hb dL_copyOvers_17 (by decide) ?_
      refine lv_iconst (v := 0) hx hb dL_copyOvers_36 (by decide) ?_
      exact g_iret C0 G hr dL_copyOvers_37 (Nat.le_of_ble_eq_true rfl) (Nat.le_of_ble_eq_true rfl) (by exact Or.inl ⟨rfl, _, _, hp3, by rw [hf7, if_neg c9]; rfl⟩)
set_option maxRecDepth 100000 in
theorem w_storedOvers {l : Launch} (hfl : l.stackTraces = false) {D : va_G} {cy : Nat → ClassId} {f : Hf} {sz : Nat} {x out : Nat} {fsx : List Value} {gl : Nat → UInt64} {p0 p1 : Int32} {P : UInt32 → Hf → Prop} {X : String → Hf → Prop} (h_x : f x = some (.inr (10, fsx))) (K : ∀ sz, hMet l yX8_storedOvers cX8_storedOvers 3 (some .float) { frames := 8, cells := 64, slots := 600, locals := 140 } D (hTy cy) f sz [.ref x, .int p0, .int p1] (hQf P D f sz) X) (hX : ∀ E u, X E u → E = "java/lang/IndexOutOfBoundsException" ∨ E = "java/util/NoSuchElementException") (hPo : ∀ v w, P v w → w out = some (.inl (cy 6, 1, .inr (.inr (.inr (.inl gl)))))) (hNN : ∀ v w, P v w → vf_n64 (FP.f2d v)) : hMetH l yL_storedOvers cL_storedOvers 5 (some .int) [((0 : Nat), (10 : Nat), (13 : Nat), (19 : Nat)), ((0 : Nat), (10 : Nat), (17 : Nat), (57 : Nat))] { frames := 9, cells := 64, slots := 600, locals := 170 } D (hTy cy) f sz [.ref x, .int p0, .int p1, .ref out] (hQi (fun r u => (r = 0 ∧ ∃ v w, P v w ∧ u = va_up w out (some (.inl (cy 6, 1, .inr (.inr (.inr (.inl (vf_upd gl 0 (FP.f2d v))))))))) ∨ (r = 1 ∧ X "java/lang/IndexOutOfBoundsException" u) ∨ (r = 2 ∧ X "java/util/NoSuchElementException" u)) D f sz) hNo := by
  refine h_enterH (by decide) rfl hfl (Nat.le_of_ble_eq_true rfl) ?_
  intro p9 e9 s9 m9 b9 t9 c9 hsz hT9 C0 hr hnm G ls hl
  have hx := C0.1.1
  have hb := C0.1.2.1
  have hl : lv_has ls 5 [(0, .ref x), (1, .int p0), (2, .int p1), (3, .ref out)] := hl
  refine lv_aload_n hx hb dL_storedOvers_0 rfl (lv_at hl 3 rfl) ?_
  refine lv_iconst (v := 0) hx hb dL_storedOvers_1 (by decide) ?_
  refine lv_aload_n hx hb dL_storedOvers_2 rfl (lv_at hl 0 rfl) ?_
  refine lv_iload_n hx hb dL_storedOvers_3 rfl (lv_at hl 1 rfl) ?_
  refine lv_iload_n hx hb dL_storedOvers_4 rfl (lv_at hl 2 rfl) ?_
  refine g_cF C0 G (g_runV C0 G (rest := [.int 0, .ref out]) (K _) h_x rfl hY_X8_storedOvers mm_L_102 mi_X8_storedOvers ml_X8_storedOvers ⟨(Nat.le_of_ble_eq_true rfl), (Nat.le_of_ble_eq_true rfl)⟩ rfl hl.1 rfl (Nat.le_of_ble_eq_true rfl) dL_storedOvers_5 ⟨(Nat.le_of_ble_eq_true rfl), (Nat.le_of_ble_eq_true rfl)⟩) ?_ ?_
  · intro E9 ce9 q9 u9 H1 locs1 hpx G hce hcv hcl
    rcases hX _ _ hpx with rfl | rfl
    · refine g_catch C0 hT9 [] [(0, 10, 17, 57)] (0, 10, 13, 19) rfl (fun z hz => by cases hz) rfl (by decide) mk_L_19 mca_IOB hce hcv hcl ?_
      refine lv_astore (lv' := [(4, .ref q9), (0, .ref x), (1, .int p0), (2, .int p1), (3, .ref out)]) hx hb dL_storedOvers_13 hl (by decide) rfl (fun ls hl => ?_)
      refine lv_iconst (v := 1) hx hb dL_storedOvers_15 (by decide) ?_
      exact g_iret C0 G hr dL_storedOvers_16 (Nat.le_of_ble_eq_true rfl) (Nat.le_of_ble_eq_true rfl) (by exact Or.inr (Or.inl ⟨rfl, hpx⟩))
    · refine g_catch C0 hT9 [(0, 10, 13, 19)] [] (0, 10, 17, 57) rfl (fun z hz => by simp only [List.mem_cons, List.not_mem_nil, or_false] at hz; subst hz; exact ⟨by decide, _, mk_L_19, by decide⟩) rfl (by decide) mk_L_57 mca_NSE hce hcv hcl ?_
      refine lv_astore (lv' := [(4, .ref q9), (0, .ref x), (1, .int p0), (2, .int p1), (3, .ref out)]) hx hb dL_storedOvers_17 hl (by decide) rfl (fun ls hl => ?_)
      refine lv_iconst (v := 2) hx hb dL_storedOvers_19 (by decide) ?_
      exact g_iret C0 G hr dL_storedOvers_20 (Nat.le_of_ble_eq_true rfl) (Nat.le_of_ble_eq_true rfl) (by exact Or.inr (Or.inr (⟨rfl, hpx⟩)))
  · intro r1 u2 H locs hp3 G
    have ho := hPo _ _ hp3
    refine lv_f2d hx hb dL_storedOvers_8 (hNN _ _ hp3) ?_
    refine g_dast C0 G ho 6 rfl (by unfold vp_in; decide) dL_storedOvers_9 (fun H locs f7 hf7 G => ?_)
    refine lv_goto (tgt := 21) hx hb dL_storedOvers_10 (by decide) ?_
    refine lv_iconst (v := 0) hx hb dL_storedOvers_21 (by decide) ?_
    exact g_iret C0 G hr dL_storedOvers_22 (Nat.le_of_ble_eq_true rfl) (Nat.le_of_ble_eq_true rfl) (by exact Or.inl ⟨rfl, _, _, hp3, hf7⟩)
set_option maxRecDepth 100000 in
theorem w_undo {l : Launch} (hfl : l.stackTraces = false) {D : va_G} {cy : Nat → ClassId} {f : Hf} {sz : Nat} {x out : Nat} {fsx : List Value} {gl : Nat → Int64} {P : Int32 → Hf → Prop} {X : String → Hf → Prop} (h_x : f x = some (.inr (10, fsx))) (K : ∀ sz, hMet l yX8_undo cX8_undo 1 (some .int) { frames := 8, cells := 64, slots := 600, locals := 140 } D (hTy cy) f sz [.ref x] (hQi P D f sz) X) (hX : ∀ E u, X E u → E = "java/lang/IllegalStateException") (hPo : ∀ v w, P v w → w out = some (.inl (cy 5, 1, .inr (.inl gl)))) : hMetH l yL_undo cL_undo 3 (some .int) [((0 : Nat), (8 : Nat), (11 : Nat), (21 : Nat))] { frames := 9, cells := 64, slots := 600, locals := 170 } D (hTy cy) f sz [.ref x, .ref out] (hQi (fun r u => (r = 0 ∧ ∃ v w, P v w ∧ u = va_up w out (some (.inl (cy 5, 1, .inr (.inl (vp_updL gl 0 v.toInt64)))))) ∨ (r = 1 ∧ X "java/lang/IllegalStateException" u)) D f sz) hNo := by
  refine h_enterH (by decide) rfl hfl (Nat.le_of_ble_eq_true rfl) ?_
  intro p9 e9 s9 m9 b9 t9 c9 hsz hT9 C0 hr hnm G ls hl
  have hx := C0.1.1
  have hb := C0.1.2.1
  have hl : lv_has ls 3 [(0, .ref x), (1, .ref out)] := hl
  refine lv_aload_n hx hb dL_undo_0 rfl (lv_at hl 1 rfl) ?_
  refine lv_iconst (v := 0) hx hb dL_undo_1 (by decide) ?_
  refine lv_aload_n hx hb dL_undo_2 rfl (lv_at hl 0 rfl) ?_
  refine g_cI C0 G (g_runV C0 G (rest := [.int 0, .ref out]) (K _) h_x rfl hY_X8_undo mm_L_105 mi_X8_undo ml_X8_undo ⟨(Nat.le_of_ble_eq_true rfl), (Nat.le_of_ble_eq_true rfl)⟩ rfl hl.1 rfl (Nat.le_of_ble_eq_true rfl) dL_undo_3 ⟨(Nat.le_of_ble_eq_true rfl), (Nat.le_of_ble_eq_true rfl)⟩) ?_ ?_
  · intro E9 ce9 q9 u9 H1 locs1 hpx G hce hcv hcl
    obtain rfl := hX _ _ hpx
    refine g_catch C0 hT9 [] [] (0, 8, 11, 21) rfl (fun z hz => by cases hz) rfl (by decide) mk_L_21 mca_ISE hce hcv hcl ?_
    refine lv_astore_n (lv' := [(2, .ref q9), (0, .ref x), (1, .ref out)]) hx hb dL_undo_11 rfl hl (by decide) rfl (fun ls hl => ?_)
    refine lv_iconst (v := 1) hx hb dL_undo_12 (by decide) ?_
    exact g_iret C0 G hr dL_undo_13 (Nat.le_of_ble_eq_true rfl) (Nat.le_of_ble_eq_true rfl) (by exact Or.inr (⟨rfl, hpx⟩))
  · intro r1 u2 H locs hp3 G
    have ho := hPo _ _ hp3
    refine lv_i2l (v := r1.toInt64) hx hb dL_undo_6 rfl ?_
    refine g_last C0 G ho 5 rfl (by unfold vp_in; decide) dL_undo_7 (fun H locs f7 hf7 G => ?_)
    refine lv_goto (tgt := 14) hx hb dL_undo_8 (by decide) ?_
    refine lv_iconst (v := 0) hx hb dL_undo_14 (by decide) ?_
    exact g_iret C0 G hr dL_undo_15 (Nat.le_of_ble_eq_true rfl) (Nat.le_of_ble_eq_true rfl) (by exact Or.inl ⟨rfl, _, _, hp3, hf7⟩)
set_option maxRecDepth 100000 in
theorem w_isReplayed {l : Launch} (hfl : l.stackTraces = false) {D : va_G} {cy : Nat → ClassId} {f : Hf} {sz : Nat} {x out : Nat} {fsx : List Value} {gl : Nat → Int64} {P : Int32 → Hf → Prop} {X : String → Hf → Prop} (h_x : f x = some (.inr (10, fsx))) (K : ∀ sz, hMet l yX8_isReplayed cX8_isReplayed 1 (some .boolean) { frames := 8, cells := 64, slots := 600, locals := 140 } D (hTy cy) f sz [.ref x] (hQi P D f sz) X) (hX : ∀ E u, X E u → E = "java/lang/IllegalStateException") (hPo : ∀ v w, P v w → w out = some (.inl (cy 5, 1, .inr (.inl gl)))) : hMetH l yL_isReplayed cL_isReplayed 3 (some .int) [((0 : Nat), (15 : Nat), (18 : Nat), (21 : Nat))] { frames := 9, cells := 64, slots := 600, locals := 170 } D (hTy cy) f sz [.ref x, .ref out] (hQi (fun r u => (r = 0 ∧ ∃ v w, P v w ∧ u = va_up w out (some (.inl (cy 5, 1, .inr (.inl (vp_updL gl 0 (if v = 0 then 0 else 1))))))) ∨ (r = 1 ∧ X "java/lang/IllegalStateException" u)) D f sz) hNo := by
  refine h_enterH (by decide) rfl hfl (Nat.le_of_ble_eq_true rfl) ?_
  intro p9 e9 s9 m9 b9 t9 c9 hsz hT9 C0 hr hnm G ls hl
  have hx := C0.1.1
  have hb := C0.1.2.1
  have hl : lv_has ls 3 [(0, .ref x), (1, .ref out)] := hl
  refine lv_aload_n hx hb dL_isReplayed_0 rfl (lv_at hl 1 rfl) ?_
  refine lv_iconst (v := 0) hx hb dL_isReplayed_1 (by decide) ?_
  refine lv_aload_n hx hb dL_isReplayed_2 rfl (lv_at hl 0 rfl) ?_
  refine g_cI C0 G (g_runV C0 G (rest := [.int 0, .ref out]) (K _) h_x rfl hY_X8_isReplayed mm_L_108 mi_X8_isReplayed ml_X8_isReplayed ⟨(Nat.le_of_ble_eq_true rfl), (Nat.le_of_ble_eq_true rfl)⟩ rfl hl.1 rfl (Nat.le_of_ble_eq_true rfl) dL_isReplayed_3 ⟨(Nat.le_of_ble_eq_true rfl), (Nat.le_of_ble_eq_true rfl)⟩) ?_ ?_
  · intro E9 ce9 q9 u9 H1 locs1 hpx G hce hcv hcl
    obtain rfl := hX _ _ hpx
    refine g_catch C0 hT9 [] [] (0, 15, 18, 21) rfl (fun z hz => by cases hz) rfl (by decide) mk_L_21 mca_ISE hce hcv hcl ?_
    refine lv_astore_n (lv' := [(2, .ref q9), (0, .ref x), (1, .ref out)]) hx hb dL_isReplayed_18 rfl hl (by decide) rfl (fun ls hl => ?_)
    refine lv_iconst (v := 1) hx hb dL_isReplayed_19 (by decide) ?_
    exact g_iret C0 G hr dL_isReplayed_20 (Nat.le_of_ble_eq_true rfl) (Nat.le_of_ble_eq_true rfl) (by exact Or.inr (⟨rfl, hpx⟩))
  · intro r1 u2 H locs hp3 G
    have ho := hPo _ _ hp3
    refine lv_if_eq (tgt := 13) hx hb dL_isReplayed_6 (by decide) (fun c9 => ?_) (fun c9 => ?_)
    · refine lv_lconst (v := 0) hx hb dL_isReplayed_13 (by decide) ?_
      refine g_last C0 G ho 5 rfl (by unfold vp_in; decide) dL_isReplayed_14 (fun H locs f7 hf7 G => ?_)
      refine lv_goto (tgt := 21) hx hb dL_isReplayed_15 (by decide) ?_
      refine lv_iconst (v := 0) hx hb dL_isReplayed_21 (by decide) ?_
      exact g_iret C0 G hr dL_isReplayed_22 (Nat.le_of_ble_eq_true rfl) (Nat.le_of_ble_eq_true rfl) (by exact Or.inl ⟨rfl, _, _, hp3, by rw [hf7, if_pos c9]; rfl⟩)
    · refine lv_lconst (v := 1) hx hb dL_isReplayed_9 (by decide) ?_
      refine lv_goto (tgt := 14) hx hb dL_isReplayed_10 (by decide) ?_
      refine g_last C0 G ho 5 rfl (by unfold vp_in; decide) dL_isReplayed_14 (fun H locs f7 hf7 G => ?_)
      refine lv_goto (tgt := 21) hx hb dL_isReplayed_15 (by decide) ?_
      refine lv_iconst (v := 0) hx hb dL_isReplayed_21 (by decide) ?_
      exact g_iret C0 G hr dL_isReplayed_22 (Nat.le_of_ble_eq_true rfl) (Nat.le_of_ble_eq_true rfl) (by exact Or.inl ⟨rfl, _, _, hp3, by rw [hf7, if_neg c9]; rfl⟩)
set_option maxRecDepth 100000 in
theorem w_snapshot {l : Launch} (hfl : l.stackTraces = false) {D : va_G} {cy : Nat → ClassId} {f : Hf} {sz : Nat} {x out : Nat} {fsx : List Value} {gl : Nat → Int64} {P : Int32 → Hf → Prop} {X : String → Hf → Prop} (h_x : f x = some (.inr (10, fsx))) (K : ∀ sz, hMet l yX8_snapshot cX8_snapshot 1 (some .int) { frames := 8, cells := 64, slots := 600, locals := 140 } D (hTy cy) f sz [.ref x] (hQi P D f sz) X) (hX : ∀ E u, X E u → E = "java/lang/IllegalStateException") (hPo : ∀ v w, P v w → w out = some (.inl (cy 5, 1, .inr (.inl gl)))) : hMetH l yL_snapshot cL_snapshot 3 (some .int) [((0 : Nat), (8 : Nat), (11 : Nat), (21 : Nat))] { frames := 9, cells := 64, slots := 600, locals := 170 } D (hTy cy) f sz [.ref x, .ref out] (hQi (fun r u => (r = 0 ∧ ∃ v w, P v w ∧ u = va_up w out (some (.inl (cy 5, 1, .inr (.inl (vp_updL gl 0 v.toInt64)))))) ∨ (r = 1 ∧ X "java/lang/IllegalStateException" u)) D f sz) hNo := by
  refine h_enterH (by decide) rfl hfl (Nat.le_of_ble_eq_true rfl) ?_
  intro p9 e9 s9 m9 b9 t9 c9 hsz hT9 C0 hr hnm G ls hl
  have hx := C0.1.1
  have hb := C0.1.2.1
  have hl : lv_has ls 3 [(0, .ref x), (1, .ref out)] := hl
  refine lv_aload_n hx hb dL_snapshot_0 rfl (lv_at hl 1 rfl) ?_
  refine lv_iconst (v := 0) hx hb dL_snapshot_1 (by decide) ?_
  refine lv_aload_n hx hb dL_snapshot_2 rfl (lv_at hl 0 rfl) ?_
  refine g_cI C0 G (g_runV C0 G (rest := [.int 0, .ref out]) (K _) h_x rfl hY_X8_snapshot mm_L_112 mi_X8_snapshot ml_X8_snapshot ⟨(Nat.le_of_ble_eq_true rfl), (Nat.le_of_ble_eq_true rfl)⟩ rfl hl.1 rfl (Nat.le_of_ble_eq_true rfl) dL_snapshot_3 ⟨(Nat.le_of_ble_eq_true rfl), (Nat.le_of_ble_eq_true rfl)⟩) ?_ ?_
  · intro E9 ce9 q9 u9 H1 locs1 hpx G hce hcv hcl
    obtain rfl := hX _ _ hpx
    refine g_catch C0 hT9 [] [] (0, 8, 11, 21) rfl (fun z hz => by cases hz) rfl (by decide) mk_L_21 mca_ISE hce hcv hcl ?_
    refine lv_astore_n (lv' := [(2, .ref q9), (0, .ref x), (1, .ref out)]) hx hb dL_snapshot_11 rfl hl (by decide) rfl (fun ls hl => ?_)
    refine lv_iconst (v := 1) hx hb dL_snapshot_12 (by decide) ?_
    exact g_iret C0 G hr dL_snapshot_13 (Nat.le_of_ble_eq_true rfl) (Nat.le_of_ble_eq_true rfl) (by exact Or.inr (⟨rfl, hpx⟩))
  · intro r1 u2 H locs hp3 G
    have ho := hPo _ _ hp3
    refine lv_i2l (v := r1.toInt64) hx hb dL_snapshot_6 rfl ?_
    refine g_last C0 G ho 5 rfl (by unfold vp_in; decide) dL_snapshot_7 (fun H locs f7 hf7 G => ?_)
    refine lv_goto (tgt := 14) hx hb dL_snapshot_8 (by decide) ?_
    refine lv_iconst (v := 0) hx hb dL_snapshot_14 (by decide) ?_
    exact g_iret C0 G hr dL_snapshot_15 (Nat.le_of_ble_eq_true rfl) (Nat.le_of_ble_eq_true rfl) (by exact Or.inl ⟨rfl, _, _, hp3, hf7⟩)
set_option maxRecDepth 100000 in
theorem w_restore {l : Launch} (hfl : l.stackTraces = false) {D : va_G} {cy : Nat → ClassId} {f : Hf} {sz : Nat} {x out : Nat} {fsx : List Value} {gl : Nat → Int64} {P : Int32 → Hf → Prop} {X : String → Hf → Prop} (h_x : f x = some (.inr (10, fsx))) (K : ∀ sz, hMet l yX8_restore cX8_restore 1 (some .int) { frames := 8, cells := 64, slots := 600, locals := 140 } D (hTy cy) f sz [.ref x] (hQi P D f sz) X) (hX : ∀ E u, X E u → E = "java/lang/IllegalStateException") (hPo : ∀ v w, P v w → w out = some (.inl (cy 5, 1, .inr (.inl gl)))) : hMetH l yL_restore cL_restore 3 (some .int) [((0 : Nat), (8 : Nat), (11 : Nat), (21 : Nat))] { frames := 9, cells := 64, slots := 600, locals := 170 } D (hTy cy) f sz [.ref x, .ref out] (hQi (fun r u => (r = 0 ∧ ∃ v w, P v w ∧ u = va_up w out (some (.inl (cy 5, 1, .inr (.inl (vp_updL gl 0 v.toInt64)))))) ∨ (r = 1 ∧ X "java/lang/IllegalStateException" u)) D f sz) hNo := by
  refine h_enterH (by decide) rfl hfl (Nat.le_of_ble_eq_true rfl) ?_
  intro p9 e9 s9 m9 b9 t9 c9 hsz hT9 C0 hr hnm G ls hl
  have hx := C0.1.1
  have hb := C0.1.2.1
  have hl : lv_has ls 3 [(0, .ref x), (1, .ref out)] := hl
  refine lv_aload_n hx hb dL_restore_0 rfl (lv_at hl 1 rfl) ?_
  refine lv_iconst (v := 0) hx hb dL_restore_1 (by decide) ?_
  refine lv_aload_n hx hb dL_restore_2 rfl (lv_at hl 0 rfl) ?_
  refine g_cI C0 G (g_runV C0 G (rest := [.int 0, .ref out]) (K _) h_x rfl hY_X8_restore mm_L_115 mi_X8_restore ml_X8_restore ⟨(Nat.le_of_ble_eq_true rfl), (Nat.le_of_ble_eq_true rfl)⟩ rfl hl.1 rfl (Nat.le_of_ble_eq_true rfl) dL_restore_3 ⟨(Nat.le_of_ble_eq_true rfl), (Nat.le_of_ble_eq_true rfl)⟩) ?_ ?_
  · intro E9 ce9 q9 u9 H1 locs1 hpx G hce hcv hcl
    obtain rfl := hX _ _ hpx
    refine g_catch C0 hT9 [] [] (0, 8, 11, 21) rfl (fun z hz => by cases hz) rfl (by decide) mk_L_21 mca_ISE hce hcv hcl ?_
    refine lv_astore_n (lv' := [(2, .ref q9), (0, .ref x), (1, .ref out)]) hx hb dL_restore_11 rfl hl (by decide) rfl (fun ls hl => ?_)
    refine lv_iconst (v := 1) hx hb dL_restore_12 (by decide) ?_
    exact g_iret C0 G hr dL_restore_13 (Nat.le_of_ble_eq_true rfl) (Nat.le_of_ble_eq_true rfl) (by exact Or.inr (⟨rfl, hpx⟩))
  · intro r1 u2 H locs hp3 G
    have ho := hPo _ _ hp3
    refine lv_i2l (v := r1.toInt64) hx hb dL_restore_6 rfl ?_
    refine g_last C0 G ho 5 rfl (by unfold vp_in; decide) dL_restore_7 (fun H locs f7 hf7 G => ?_)
    refine lv_goto (tgt := 14) hx hb dL_restore_8 (by decide) ?_
    refine lv_iconst (v := 0) hx hb dL_restore_14 (by decide) ?_
    exact g_iret C0 G hr dL_restore_15 (Nat.le_of_ble_eq_true rfl) (Nat.le_of_ble_eq_true rfl) (by exact Or.inl ⟨rfl, _, _, hp3, hf7⟩)
