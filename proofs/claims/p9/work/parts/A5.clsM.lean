set_option maxRecDepth 100000 in
theorem c_X6_isLike {l : Launch} (hfl : l.stackTraces = false) {D : va_G} {cy : Nat → ClassId} {f : Hf} {sz : Nat} {t : Nat} {c : Nat} {n : Nat} {C : Nat} {r : Nat} {g : Nat → Int32} {t_o : Nat} {c_o : Nat} {n_o : Nat} {C_o : Nat} {r_o : Nat} {g_o : Nat → Int32} (h_t : f t = some (.inr (8, [.int (nI C), .ref c, .int (nI r)]))) (h_c : f c = some (.inl (cy 0, n, .inl g))) (h_t_o : f t_o = some (.inr (8, [.int (nI C_o), .ref c_o, .int (nI r_o)]))) (h_c_o : f c_o = some (.inl (cy 0, n_o, .inl g_o))) (hC : C < 64) (hC2 : C_o < 64) (hr9 : r < 65536) (hr8 : r_o < 65536) (hnn : n < 2147483648) (hnn2 : n_o < 2147483648) : hMet l yX6_isLike cX6_isLike 4 (some .boolean) { frames := 1, cells := 0, slots := 0, locals := 24 } D (hTy cy) f sz [.ref t, .ref t_o] (hQi (fun r u => (r = 0 ∨ r = 1) ∧ u = f) D f sz) hNo := by
  refine h_enter (by decide) hfl (Nat.le_of_ble_eq_true rfl) ?_
  intro p9 e9 s9 m9 b9 t9 c9 hsz C0 hr hnm G ls hl
  have hx := C0.1.1
  have hb := C0.1.2.1
  have hl : lv_has ls 4 [(0, .ref t), (1, .ref t_o)] := hl
  refine lv_aload_n hx hb dX6_isLike_0 rfl (lv_at hl 0 rfl) ?_
  refine g_get C0 G h_t rfl hiX6 2 (by decide) mf_X6_7 rfl dX6_isLike_1 ?_
  refine lv_aload_n hx hb dX6_isLike_4 rfl (lv_at hl 1 rfl) ?_
  refine g_get C0 G h_t_o rfl hiX6 2 (by decide) mf_X6_7 rfl dX6_isLike_5 ?_
  refine lv_icmp_ne (tgt := 22) hx hb dX6_isLike_8 (by decide) (fun c11 => ?_) (fun c11 => ?_)
  · have n12 : ¬ r = r_o := fun q => c11 ((nI_eq (a := r) (b := r_o) (by omega) (by omega)).mpr q)
    refine lv_iconst (v := 0) hx hb dX6_isLike_22 (by decide) ?_
    exact g_zret C0 G hr dX6_isLike_23 rfl (Nat.le_of_ble_eq_true rfl) (Nat.le_of_ble_eq_true rfl) (by exact ⟨(Or.inl rfl), rfl⟩)
  · have n13 : r = r_o := (nI_eq (a := r) (b := r_o) (by omega) (by omega)).mp c11
    refine lv_aload_n hx hb dX6_isLike_11 rfl (lv_at hl 0 rfl) ?_
    refine g_get C0 G h_t rfl hiX6 0 (by decide) mf_X6_13 rfl dX6_isLike_12 ?_
    refine lv_aload_n hx hb dX6_isLike_15 rfl (lv_at hl 1 rfl) ?_
    refine g_get C0 G h_t_o rfl hiX6 0 (by decide) mf_X6_13 rfl dX6_isLike_16 ?_
    refine lv_icmp_eq (tgt := 24) hx hb dX6_isLike_19 (by decide) (fun c14 => ?_) (fun c14 => ?_)
    · have n15 : C = C_o := (nI_eq (a := C) (b := C_o) (by omega) (by omega)).mp c14
      refine lv_iconst (v := 0) hx hb dX6_isLike_24 (by decide) ?_
      refine lv_istore_n (lv' := [(2, .int 0), (0, .ref t), (1, .ref t_o)]) hx hb dX6_isLike_25 rfl hl (by decide) rfl (fun ls hl => ?_)
      refine W.widen (k := 0) (n := 0) (Nat.le_of_ble_eq_true rfl) (Nat.le_of_ble_eq_true rfl) ?_
      have LOOP26 : ∀ (k : Nat) (jj : Nat) (f1 : Hf) (H : Heap) (locs : List Loc) (ls : Array Slot), (jj ≤ r) → (r - jj < k) → f1 = f → hG D (hA f sz) f1 s9 H locs → lv_has ls 4 [(2, .int (nI jj)), (0, .ref t), (1, .ref t_o)] → W p9 l e9 ({ frames := 1, cells := 0, slots := 0, locals := 24 } : Room) s9 m9 ([.ref t, .ref t_o] : List Value).toArray b9 t9 c9 H locs 0 0 (vx_MQ b9 (hQi (fun r u => (r = 0 ∨ r = 1) ∧ u = f) D f sz) (hPx hNo D f sz) ([.ref t, .ref t_o] : List Value).toArray s9 0 0 (hA f sz)) (F0 m9 26 ls []) := by
        intro k
        induction k with
        | zero =>
          intro jj f1 H locs ls hi2 hk hfr G hl
          exact absurd hk (by omega)
        | succ k ih =>
          intro jj f1 H locs ls hi2 hk hfr G hl
          rw [hfr] at G
          refine lv_iload_n hx hb dX6_isLike_26 rfl (lv_at hl 0 rfl) ?_
          refine lv_aload_n hx hb dX6_isLike_27 rfl (lv_at hl 1 rfl) ?_
          refine g_get C0 G h_t rfl hiX6 2 (by decide) mf_X6_7 rfl dX6_isLike_28 ?_
          refine lv_icmp_ge (tgt := 73) hx hb dX6_isLike_31 (by decide) (fun c16 => ?_) (fun c16 => ?_)
          · have n17 : r ≤ jj := (nI_leI (a := r) (b := jj) (by omega) (by omega)).mp c16
            have hi9 : r = jj := by omega
            subst hi9
            refine lv_iconst (v := 1) hx hb dX6_isLike_73 (by decide) ?_
            exact g_zret C0 G hr dX6_isLike_74 rfl (Nat.le_of_ble_eq_true rfl) (Nat.le_of_ble_eq_true rfl) (by exact ⟨(Or.inr rfl), rfl⟩)
          · have n18 : ¬ r ≤ jj := fun q => c16 ((nI_leI (a := r) (b := jj) (by omega) (by omega)).mpr q)
            refine lv_iconst (v := 0) hx hb dX6_isLike_34 (by decide) ?_
            refine lv_istore_n (lv' := [(3, .int 0), (2, .int (nI jj)), (0, .ref t), (1, .ref t_o)]) hx hb dX6_isLike_35 rfl hl (by decide) rfl (fun ls hl => ?_)
            refine W.widen (k := 0) (n := 0) (Nat.le_of_ble_eq_true rfl) (Nat.le_of_ble_eq_true rfl) ?_
            have LOOP36 : ∀ (kb : Nat) (kk : Nat) (f1b : Hf) (H : Heap) (locs : List Loc) (ls : Array Slot), (kk ≤ C) → (C - kk < kb) → f1b = f → hG D (hA f sz) f1b s9 H locs → lv_has ls 4 [(3, .int (nI kk)), (2, .int (nI jj)), (0, .ref t), (1, .ref t_o)] → W p9 l e9 ({ frames := 1, cells := 0, slots := 0, locals := 24 } : Room) s9 m9 ([.ref t, .ref t_o] : List Value).toArray b9 t9 c9 H locs 0 0 (vx_MQ b9 (hQi (fun r u => (r = 0 ∨ r = 1) ∧ u = f) D f sz) (hPx hNo D f sz) ([.ref t, .ref t_o] : List Value).toArray s9 0 0 (hA f sz)) (F0 m9 36 ls []) := by
              intro kb
              induction kb with
              | zero =>
                intro kk f1b H locs ls hi2b hkb hfrb G hl
                exact absurd hkb (by omega)
              | succ kb ihb =>
                intro kk f1b H locs ls hi2b hkb hfrb G hl
                rw [hfrb] at G
                refine lv_iload_n hx hb dX6_isLike_36 rfl (lv_at hl 0 rfl) ?_
                refine lv_aload_n hx hb dX6_isLike_37 rfl (lv_at hl 2 rfl) ?_
                refine g_get C0 G h_t rfl hiX6 0 (by decide) mf_X6_13 rfl dX6_isLike_38 ?_
                refine lv_icmp_ge (tgt := 67) hx hb dX6_isLike_41 (by decide) (fun c19 => ?_) (fun c19 => ?_)
                · have n20 : C ≤ kk := (nI_leI (a := C) (b := kk) (by omega) (by omega)).mp c19
                  have hi9 : C = kk := by omega
                  subst hi9
                  refine lv_iinc (v := nI (jj + 1)) (lv' := [(2, .int (nI (jj + 1))), (3, .int (nI C)), (0, .ref t), (1, .ref t_o)]) hx hb dX6_isLike_67 hl (k := 1) rfl (by exact (nI_add _ _)) (by decide) rfl (fun ls hl => ?_)
                  refine lv_goto (tgt := 26) hx hb dX6_isLike_70 (by decide) ?_
                  exact ih (jj + 1) f _ _ _ (by omega) (by omega)  rfl G (lv_sub hl [0, 2, 3] rfl)
                · have n22 : ¬ C ≤ kk := fun q => c19 ((nI_leI (a := C) (b := kk) (by omega) (by omega)).mpr q)
                  refine lv_aload_n hx hb dX6_isLike_44 rfl (lv_at hl 2 rfl) ?_
                  refine lv_iload_n hx hb dX6_isLike_45 rfl (lv_at hl 1 rfl) ?_
                  refine lv_iload_n hx hb dX6_isLike_46 rfl (lv_at hl 0 rfl) ?_
                  refine g_cI C0 G (g_runV C0 G (rest := []) (k_X6_get hfl (nI jj) (nI kk) h_t h_c hnn) h_t rfl hY_X6_get mm_X6_29 mi_X6_get ml_X6_get ⟨(Nat.le_of_ble_eq_true rfl), (Nat.le_of_ble_eq_true rfl)⟩ rfl hl.1 rfl (Nat.le_of_ble_eq_true rfl) dX6_isLike_47 ⟨(Nat.le_of_ble_eq_true rfl), (Nat.le_of_ble_eq_true rfl)⟩) (kx_no rfl) (fun r25 u24 H locs hp23 G => ?_)
                  obtain ⟨er26, eu24⟩ := hp23
                  rw [eu24] at G
                  refine lv_topv (v := (tget (nI C) (nI r) n g (nI jj) (nI kk))) er26 ?_
                  refine lv_aload_n hx hb dX6_isLike_50 rfl (lv_at hl 3 rfl) ?_
                  refine lv_iload_n hx hb dX6_isLike_51 rfl (lv_at hl 1 rfl) ?_
                  refine lv_iload_n hx hb dX6_isLike_52 rfl (lv_at hl 0 rfl) ?_
                  refine g_cI C0 G (g_runV C0 G (rest := [.int (tget (nI C) (nI r) n g (nI jj) (nI kk))]) (k_X6_get hfl (nI jj) (nI kk) h_t_o h_c_o hnn2) h_t_o rfl hY_X6_get mm_X6_29 mi_X6_get ml_X6_get ⟨(Nat.le_of_ble_eq_true rfl), (Nat.le_of_ble_eq_true rfl)⟩ rfl hl.1 rfl (Nat.le_of_ble_eq_true rfl) dX6_isLike_53 ⟨(Nat.le_of_ble_eq_true rfl), (Nat.le_of_ble_eq_true rfl)⟩) (kx_no rfl) (fun r29 u28 H locs hp27 G => ?_)
                  obtain ⟨er30, eu28⟩ := hp27
                  rw [eu28] at G
                  refine lv_topv (v := (tget (nI C_o) (nI r_o) n_o g_o (nI jj) (nI kk))) er30 ?_
                  refine lv_icmp_eq (tgt := 61) hx hb dX6_isLike_56 (by decide) (fun c31 => ?_) (fun c31 => ?_)
                  · refine lv_iinc (v := nI (kk + 1)) (lv' := [(3, .int (nI (kk + 1))), (2, .int (nI jj)), (0, .ref t), (1, .ref t_o)]) hx hb dX6_isLike_61 hl (k := 0) rfl (by exact (nI_add _ _)) (by decide) rfl (fun ls hl => ?_)
                    refine lv_goto (tgt := 36) hx hb dX6_isLike_64 (by decide) ?_
                    exact ihb (kk + 1) f _ _ _ (by omega) (by omega)  rfl G (lv_sub hl [0, 1, 2, 3] rfl)
                  · refine lv_iconst (v := 0) hx hb dX6_isLike_59 (by decide) ?_
                    exact g_zret C0 G hr dX6_isLike_60 rfl (Nat.le_of_ble_eq_true rfl) (Nat.le_of_ble_eq_true rfl) (by exact ⟨(Or.inl rfl), rfl⟩)
            exact LOOP36 (C + 1) 0 f _ _ _ (by omega) (by omega)   rfl G (lv_sub hl [0, 1, 2, 3] rfl)
      exact LOOP26 (r + 1) 0 f _ _ _ (by omega) (by omega)   rfl G (lv_sub hl [0, 1, 2] rfl)
    · have n33 : ¬ C = C_o := fun q => c14 ((nI_eq (a := C) (b := C_o) (by omega) (by omega)).mpr q)
      refine lv_iconst (v := 0) hx hb dX6_isLike_22 (by decide) ?_
      exact g_zret C0 G hr dX6_isLike_23 rfl (Nat.le_of_ble_eq_true rfl) (Nat.le_of_ble_eq_true rfl) (by exact ⟨(Or.inl rfl), rfl⟩)
set_option maxRecDepth 100000 in
theorem c_X3_isLike {l : Launch} (hfl : l.stackTraces = false) {D : va_G} {cy : Nat → ClassId} {f : Hf} {sz : Nat} {o : Nat} {oa : Nat} {oc : Nat} {go : Nat → Int32} {lm : Int32} {lf : Int32} {bw : Int32} {bb : Int32} {bl : Int32} {cd : Int32} {hbg : Int32} {o_o : Nat} {oa_o : Nat} {oc_o : Nat} {go_o : Nat → Int32} {lm_o : Int32} {lf_o : Int32} {bw_o : Int32} {bb_o : Int32} {bl_o : Int32} {cd_o : Int32} {hbg_o : Int32} (h_o : f o = some (.inr (5, [.ref oa, .int lm, .int lf, .int (nI oc), .int bw, .int bb, .int bl, .int cd, .int hbg]))) (h_oa : f oa = some (.inl (cy 0, 20, .inl go))) (h_o_o : f o_o = some (.inr (5, [.ref oa_o, .int lm_o, .int lf_o, .int (nI oc_o), .int bw_o, .int bb_o, .int bl_o, .int cd_o, .int hbg_o]))) (h_oa_o : f oa_o = some (.inl (cy 0, 20, .inl go_o))) (hoc : oc < 65536) (hoc2 : oc_o < 65536) : hMet l yX3_isLike cX3_isLike 3 (some .boolean) { frames := 1, cells := 0, slots := 0, locals := 22 } D (hTy cy) f sz [.ref o, .ref o_o] (hQi (fun r u => (r = 0 ∨ r = 1) ∧ u = f) D f sz) hNo := by
  refine h_enter (by decide) hfl (Nat.le_of_ble_eq_true rfl) ?_
  intro p9 e9 s9 m9 b9 t9 c9 hsz C0 hr hnm G ls hl
  have hx := C0.1.1
  have hb := C0.1.2.1
  have hl : lv_has ls 3 [(0, .ref o), (1, .ref o_o)] := hl
  refine lv_iconst (v := 0) hx hb dX3_isLike_0 (by decide) ?_
  refine lv_istore_n (lv' := [(2, .int 0), (0, .ref o), (1, .ref o_o)]) hx hb dX3_isLike_1 rfl hl (by decide) rfl (fun ls hl => ?_)
  refine W.widen (k := 0) (n := 0) (Nat.le_of_ble_eq_true rfl) (Nat.le_of_ble_eq_true rfl) ?_
  have LOOP2 : ∀ (k : Nat) (jj : Nat) (f1 : Hf) (H : Heap) (locs : List Loc) (ls : Array Slot), (jj ≤ oc) → (oc - jj < k) → f1 = f → hG D (hA f sz) f1 s9 H locs → lv_has ls 3 [(2, .int (nI jj)), (0, .ref o), (1, .ref o_o)] → W p9 l e9 ({ frames := 1, cells := 0, slots := 0, locals := 22 } : Room) s9 m9 ([.ref o, .ref o_o] : List Value).toArray b9 t9 c9 H locs 0 0 (vx_MQ b9 (hQi (fun r u => (r = 0 ∨ r = 1) ∧ u = f) D f sz) (hPx hNo D f sz) ([.ref o, .ref o_o] : List Value).toArray s9 0 0 (hA f sz)) (F0 m9 2 ls []) := by
    intro k
    induction k with
    | zero =>
      intro jj f1 H locs ls hi2 hk hfr G hl
      exact absurd hk (by omega)
    | succ k ih =>
      intro jj f1 H locs ls hi2 hk hfr G hl
      rw [hfr] at G
      refine lv_iload_n hx hb dX3_isLike_2 rfl (lv_at hl 0 rfl) ?_
      refine lv_aload_n hx hb dX3_isLike_3 rfl (lv_at hl 1 rfl) ?_
      refine g_get C0 G h_o rfl hiX3 3 (by decide) mf_X3_22 rfl dX3_isLike_4 ?_
      refine lv_icmp_ge (tgt := 33) hx hb dX3_isLike_7 (by decide) (fun c11 => ?_) (fun c11 => ?_)
      · have n12 : oc ≤ jj := (nI_leI (a := oc) (b := jj) (by omega) (by omega)).mp c11
        have hi9 : oc = jj := by omega
        subst hi9
        refine lv_aload_n hx hb dX3_isLike_33 rfl (lv_at hl 1 rfl) ?_
        refine g_get C0 G h_o rfl hiX3 1 (by decide) mf_X3_15 rfl dX3_isLike_34 ?_
        refine lv_aload_n hx hb dX3_isLike_37 rfl (lv_at hl 2 rfl) ?_
        refine g_get C0 G h_o_o rfl hiX3 1 (by decide) mf_X3_15 rfl dX3_isLike_38 ?_
        refine lv_icmp_ne (tgt := 125) hx hb dX3_isLike_41 (by decide) (fun c13 => ?_) (fun c13 => ?_)
        · refine lv_iconst (v := 0) hx hb dX3_isLike_125 (by decide) ?_
          exact g_zret C0 G hr dX3_isLike_126 rfl (Nat.le_of_ble_eq_true rfl) (Nat.le_of_ble_eq_true rfl) (by exact ⟨(Or.inl rfl), rfl⟩)
        · refine lv_aload_n hx hb dX3_isLike_44 rfl (lv_at hl 1 rfl) ?_
          refine g_get C0 G h_o rfl hiX3 2 (by decide) mf_X3_19 rfl dX3_isLike_45 ?_
          refine lv_aload_n hx hb dX3_isLike_48 rfl (lv_at hl 2 rfl) ?_
          refine g_get C0 G h_o_o rfl hiX3 2 (by decide) mf_X3_19 rfl dX3_isLike_49 ?_
          refine lv_icmp_ne (tgt := 125) hx hb dX3_isLike_52 (by decide) (fun c14 => ?_) (fun c14 => ?_)
          · refine lv_iconst (v := 0) hx hb dX3_isLike_125 (by decide) ?_
            exact g_zret C0 G hr dX3_isLike_126 rfl (Nat.le_of_ble_eq_true rfl) (Nat.le_of_ble_eq_true rfl) (by exact ⟨(Or.inl rfl), rfl⟩)
          · refine lv_aload_n hx hb dX3_isLike_55 rfl (lv_at hl 1 rfl) ?_
            refine g_get C0 G h_o rfl hiX3 3 (by decide) mf_X3_22 rfl dX3_isLike_56 ?_
            refine lv_aload_n hx hb dX3_isLike_59 rfl (lv_at hl 2 rfl) ?_
            refine g_get C0 G h_o_o rfl hiX3 3 (by decide) mf_X3_22 rfl dX3_isLike_60 ?_
            refine lv_icmp_ne (tgt := 125) hx hb dX3_isLike_63 (by decide) (fun c15 => ?_) (fun c15 => ?_)
            · have n16 : ¬ oc = oc_o := fun q => c15 ((nI_eq (a := oc) (b := oc_o) (by omega) (by omega)).mpr q)
              refine lv_iconst (v := 0) hx hb dX3_isLike_125 (by decide) ?_
              exact g_zret C0 G hr dX3_isLike_126 rfl (Nat.le_of_ble_eq_true rfl) (Nat.le_of_ble_eq_true rfl) (by exact ⟨(Or.inl rfl), rfl⟩)
            · have n17 : oc = oc_o := (nI_eq (a := oc) (b := oc_o) (by omega) (by omega)).mp c15
              refine lv_aload_n hx hb dX3_isLike_66 rfl (lv_at hl 1 rfl) ?_
              refine g_get C0 G h_o rfl hiX3 4 (by decide) mf_X3_25 rfl dX3_isLike_67 ?_
              refine lv_aload_n hx hb dX3_isLike_70 rfl (lv_at hl 2 rfl) ?_
              refine g_get C0 G h_o_o rfl hiX3 4 (by decide) mf_X3_25 rfl dX3_isLike_71 ?_
              refine lv_icmp_ne (tgt := 125) hx hb dX3_isLike_74 (by decide) (fun c18 => ?_) (fun c18 => ?_)
              · refine lv_iconst (v := 0) hx hb dX3_isLike_125 (by decide) ?_
                exact g_zret C0 G hr dX3_isLike_126 rfl (Nat.le_of_ble_eq_true rfl) (Nat.le_of_ble_eq_true rfl) (by exact ⟨(Or.inl rfl), rfl⟩)
              · refine lv_aload_n hx hb dX3_isLike_77 rfl (lv_at hl 1 rfl) ?_
                refine g_get C0 G h_o rfl hiX3 5 (by decide) mf_X3_28 rfl dX3_isLike_78 ?_
                refine lv_aload_n hx hb dX3_isLike_81 rfl (lv_at hl 2 rfl) ?_
                refine g_get C0 G h_o_o rfl hiX3 5 (by decide) mf_X3_28 rfl dX3_isLike_82 ?_
                refine lv_icmp_ne (tgt := 125) hx hb dX3_isLike_85 (by decide) (fun c19 => ?_) (fun c19 => ?_)
                · refine lv_iconst (v := 0) hx hb dX3_isLike_125 (by decide) ?_
                  exact g_zret C0 G hr dX3_isLike_126 rfl (Nat.le_of_ble_eq_true rfl) (Nat.le_of_ble_eq_true rfl) (by exact ⟨(Or.inl rfl), rfl⟩)
                · refine lv_aload_n hx hb dX3_isLike_88 rfl (lv_at hl 1 rfl) ?_
                  refine g_get C0 G h_o rfl hiX3 6 (by decide) mf_X3_31 rfl dX3_isLike_89 ?_
                  refine lv_aload_n hx hb dX3_isLike_92 rfl (lv_at hl 2 rfl) ?_
                  refine g_get C0 G h_o_o rfl hiX3 6 (by decide) mf_X3_31 rfl dX3_isLike_93 ?_
                  refine lv_icmp_ne (tgt := 125) hx hb dX3_isLike_96 (by decide) (fun c20 => ?_) (fun c20 => ?_)
                  · refine lv_iconst (v := 0) hx hb dX3_isLike_125 (by decide) ?_
                    exact g_zret C0 G hr dX3_isLike_126 rfl (Nat.le_of_ble_eq_true rfl) (Nat.le_of_ble_eq_true rfl) (by exact ⟨(Or.inl rfl), rfl⟩)
                  · refine lv_aload_n hx hb dX3_isLike_99 rfl (lv_at hl 1 rfl) ?_
                    refine g_get C0 G h_o rfl hiX3 7 (by decide) mf_X3_34 rfl dX3_isLike_100 ?_
                    refine lv_aload_n hx hb dX3_isLike_103 rfl (lv_at hl 2 rfl) ?_
                    refine g_get C0 G h_o_o rfl hiX3 7 (by decide) mf_X3_34 rfl dX3_isLike_104 ?_
                    refine lv_icmp_ne (tgt := 125) hx hb dX3_isLike_107 (by decide) (fun c21 => ?_) (fun c21 => ?_)
                    · refine lv_iconst (v := 0) hx hb dX3_isLike_125 (by decide) ?_
                      exact g_zret C0 G hr dX3_isLike_126 rfl (Nat.le_of_ble_eq_true rfl) (Nat.le_of_ble_eq_true rfl) (by exact ⟨(Or.inl rfl), rfl⟩)
                    · refine lv_aload_n hx hb dX3_isLike_110 rfl (lv_at hl 1 rfl) ?_
                      refine g_get C0 G h_o rfl hiX3 8 (by decide) mf_X3_37 rfl dX3_isLike_111 ?_
                      refine lv_aload_n hx hb dX3_isLike_114 rfl (lv_at hl 2 rfl) ?_
                      refine g_get C0 G h_o_o rfl hiX3 8 (by decide) mf_X3_37 rfl dX3_isLike_115 ?_
                      refine lv_icmp_ne (tgt := 125) hx hb dX3_isLike_118 (by decide) (fun c22 => ?_) (fun c22 => ?_)
                      · refine lv_iconst (v := 0) hx hb dX3_isLike_125 (by decide) ?_
                        exact g_zret C0 G hr dX3_isLike_126 rfl (Nat.le_of_ble_eq_true rfl) (Nat.le_of_ble_eq_true rfl) (by exact ⟨(Or.inl rfl), rfl⟩)
                      · refine lv_iconst (v := 1) hx hb dX3_isLike_121 (by decide) ?_
                        refine lv_goto (tgt := 126) hx hb dX3_isLike_122 (by decide) ?_
                        exact g_zret C0 G hr dX3_isLike_126 rfl (Nat.le_of_ble_eq_true rfl) (Nat.le_of_ble_eq_true rfl) (by exact ⟨(Or.inr rfl), rfl⟩)
      · have n23 : ¬ oc ≤ jj := fun q => c11 ((nI_leI (a := oc) (b := jj) (by omega) (by omega)).mpr q)
        refine lv_aload_n hx hb dX3_isLike_10 rfl (lv_at hl 1 rfl) ?_
        refine lv_iload_n hx hb dX3_isLike_11 rfl (lv_at hl 0 rfl) ?_
        refine lv_iconst (v := 0) hx hb dX3_isLike_12 (by decide) ?_
        refine g_cI C0 G (g_runV C0 G (rest := []) (c_X3_runsAfter hfl (nI jj) 0 h_o h_oa) h_o rfl hY_X3_runsAfter mm_X3_44 mi_X3_runsAfter ml_X3_runsAfter ⟨(Nat.le_of_ble_eq_true rfl), (Nat.le_of_ble_eq_true rfl)⟩ rfl hl.1 rfl (Nat.le_of_ble_eq_true rfl) dX3_isLike_13 ⟨(Nat.le_of_ble_eq_true rfl), (Nat.le_of_ble_eq_true rfl)⟩) (kx_no rfl) (fun r26 u25 H locs hp24 G => ?_)
        obtain ⟨er27, eu25⟩ := hp24
        rw [eu25] at G
        refine lv_topv (v := (X3_runsAfter_x2 go (nI oc) (nI jj) 0)) er27 ?_
        refine lv_aload_n hx hb dX3_isLike_16 rfl (lv_at hl 2 rfl) ?_
        refine lv_iload_n hx hb dX3_isLike_17 rfl (lv_at hl 0 rfl) ?_
        refine lv_iconst (v := 0) hx hb dX3_isLike_18 (by decide) ?_
        refine g_cI C0 G (g_runV C0 G (rest := [.int (X3_runsAfter_x2 go (nI oc) (nI jj) 0)]) (c_X3_runsAfter hfl (nI jj) 0 h_o_o h_oa_o) h_o_o rfl hY_X3_runsAfter mm_X3_44 mi_X3_runsAfter ml_X3_runsAfter ⟨(Nat.le_of_ble_eq_true rfl), (Nat.le_of_ble_eq_true rfl)⟩ rfl hl.1 rfl (Nat.le_of_ble_eq_true rfl) dX3_isLike_19 ⟨(Nat.le_of_ble_eq_true rfl), (Nat.le_of_ble_eq_true rfl)⟩) (kx_no rfl) (fun r30 u29 H locs hp28 G => ?_)
        obtain ⟨er31, eu29⟩ := hp28
        rw [eu29] at G
        refine lv_topv (v := (X3_runsAfter_x2 go_o (nI oc_o) (nI jj) 0)) er31 ?_
        refine lv_icmp_eq (tgt := 27) hx hb dX3_isLike_22 (by decide) (fun c32 => ?_) (fun c32 => ?_)
        · refine lv_iinc (v := nI (jj + 1)) (lv' := [(2, .int (nI (jj + 1))), (0, .ref o), (1, .ref o_o)]) hx hb dX3_isLike_27 hl (k := 0) rfl (by exact (nI_add _ _)) (by decide) rfl (fun ls hl => ?_)
          refine lv_goto (tgt := 2) hx hb dX3_isLike_30 (by decide) ?_
          exact ih (jj + 1) f _ _ _ (by omega) (by omega)  rfl G (lv_sub hl [0, 1, 2] rfl)
        · refine lv_iconst (v := 0) hx hb dX3_isLike_25 (by decide) ?_
          exact g_zret C0 G hr dX3_isLike_26 rfl (Nat.le_of_ble_eq_true rfl) (Nat.le_of_ble_eq_true rfl) (by exact ⟨(Or.inl rfl), rfl⟩)
  exact LOOP2 (oc + 1) 0 f _ _ _ (by omega) (by omega)   rfl G (lv_sub hl [0, 1, 2] rfl)
set_option maxRecDepth 100000 in
theorem c_X0_isLike {l : Launch} (hfl : l.stackTraces = false) {D : va_G} {cy : Nat → ClassId} {f : Hf} {sz : Nat} {i : Nat} {t0 : Nat} {a0 : Nat} {t1 : Nat} {a1 : Nat} {t2 : Nat} {a2 : Nat} {t3 : Nat} {a3 : Nat} {t4 : Nat} {a4 : Nat} {o : Nat} {oa : Nat} {rp : Nat} {rf : Nat} {oc : Nat} {g0 : Nat → Int32} {g1 : Nat → Int32} {g2 : Nat → Int32} {g3 : Nat → Int32} {g4 : Nat → Int32} {go : Nat → Int32} {lm : Int32} {lf : Int32} {bw : Int32} {bb : Int32} {bl : Int32} {cd : Int32} {hbg : Int32} {rs : Int32} {sk : Int32} {ot : Int32} {ch : Int32} {nc : Int32} {i_o : Nat} {t0_o : Nat} {a0_o : Nat} {t1_o : Nat} {a1_o : Nat} {t2_o : Nat} {a2_o : Nat} {t3_o : Nat} {a3_o : Nat} {t4_o : Nat} {a4_o : Nat} {o_o : Nat} {oa_o : Nat} {rp_o : Nat} {rf_o : Nat} {oc_o : Nat} {g0_o : Nat → Int32} {g1_o : Nat → Int32} {g2_o : Nat → Int32} {g3_o : Nat → Int32} {g4_o : Nat → Int32} {go_o : Nat → Int32} {lm_o : Int32} {lf_o : Int32} {bw_o : Int32} {bb_o : Int32} {bl_o : Int32} {cd_o : Int32} {hbg_o : Int32} {rs_o : Int32} {sk_o : Int32} {ot_o : Int32} {ch_o : Int32} {nc_o : Int32} (h_i : f i = some (.inr (2, [.ref t0, .ref t1, .ref t2, .ref t3, .ref t4, .ref o, .int rs, .int sk, .int ot, .int ch, .int nc]))) (h_t0 : f t0 = some (.inr (8, [.int 8, .ref a0, .int 1]))) (h_a0 : f a0 = some (.inl (cy 0, 8, .inl g0))) (h_t1 : f t1 = some (.inr (8, [.int 6, .ref a1, .int 11]))) (h_a1 : f a1 = some (.inl (cy 0, 66, .inl g1))) (h_t2 : f t2 = some (.inr (8, [.int 7, .ref a2, .int 11]))) (h_a2 : f a2 = some (.inl (cy 0, 77, .inl g2))) (h_t3 : f t3 = some (.inr (8, [.int 8, .ref a3, .int (nI rp)]))) (h_a3 : f a3 = some (.inl (cy 0, 4104, .inl g3))) (h_t4 : f t4 = some (.inr (8, [.int 3, .ref a4, .int (nI rf)]))) (h_a4 : f a4 = some (.inl (cy 0, 33, .inl g4))) (h_o : f o = some (.inr (5, [.ref oa, .int lm, .int lf, .int (nI oc), .int bw, .int bb, .int bl, .int cd, .int hbg]))) (h_oa : f oa = some (.inl (cy 0, 20, .inl go))) (h_i_o : f i_o = some (.inr (2, [.ref t0_o, .ref t1_o, .ref t2_o, .ref t3_o, .ref t4_o, .ref o_o, .int rs_o, .int sk_o, .int ot_o, .int ch_o, .int nc_o]))) (h_t0_o : f t0_o = some (.inr (8, [.int 8, .ref a0_o, .int 1]))) (h_a0_o : f a0_o = some (.inl (cy 0, 8, .inl g0_o))) (h_t1_o : f t1_o = some (.inr (8, [.int 6, .ref a1_o, .int 11]))) (h_a1_o : f a1_o = some (.inl (cy 0, 66, .inl g1_o))) (h_t2_o : f t2_o = some (.inr (8, [.int 7, .ref a2_o, .int 11]))) (h_a2_o : f a2_o = some (.inl (cy 0, 77, .inl g2_o))) (h_t3_o : f t3_o = some (.inr (8, [.int 8, .ref a3_o, .int (nI rp_o)]))) (h_a3_o : f a3_o = some (.inl (cy 0, 4104, .inl g3_o))) (h_t4_o : f t4_o = some (.inr (8, [.int 3, .ref a4_o, .int (nI rf_o)]))) (h_a4_o : f a4_o = some (.inl (cy 0, 33, .inl g4_o))) (h_o_o : f o_o = some (.inr (5, [.ref oa_o, .int lm_o, .int lf_o, .int (nI oc_o), .int bw_o, .int bb_o, .int bl_o, .int cd_o, .int hbg_o]))) (h_oa_o : f oa_o = some (.inl (cy 0, 20, .inl go_o))) (hrp : rp < 600) (hrf : rf < 600) (hoc : oc < 600) (hrp2 : rp_o < 600) (hrf2 : rf_o < 600) (hoc2 : oc_o < 600) : hMet l yX0_isLike cX0_isLike 2 (some .boolean) { frames := 2, cells := 0, slots := 0, locals := 47 } D (hTy cy) f sz [.ref i, .ref i_o] (hQi (fun r u => (r = 0 ∨ r = 1) ∧ u = f) D f sz) hNo := by
  refine h_enter (by decide) hfl (Nat.le_of_ble_eq_true rfl) ?_
  intro p9 e9 s9 m9 b9 t9 c9 hsz C0 hr hnm G ls hl
  have hx := C0.1.1
  have hb := C0.1.2.1
  have hl : lv_has ls 2 [(0, .ref i), (1, .ref i_o)] := hl
  refine lv_aload_n hx hb dX0_isLike_0 rfl (lv_at hl 0 rfl) ?_
  refine g_get C0 G h_i rfl hiX0 0 (by decide) mf_X0_16 rfl dX0_isLike_1 ?_
  refine lv_aload_n hx hb dX0_isLike_4 rfl (lv_at hl 1 rfl) ?_
  refine g_get C0 G h_i_o rfl hiX0 0 (by decide) mf_X0_16 rfl dX0_isLike_5 ?_
  refine g_cI C0 G (g_runV C0 G (rest := []) (c_X6_isLike hfl (n := 8) (C := 8) (r := 1) (g := g0) (n_o := 8) (C_o := 8) (r_o := 1) (g_o := g0_o) h_t0 h_a0 h_t0_o h_a0_o (by omega) (by omega) (by omega) (by omega) (by omega) (by omega)) h_t0 rfl hY_X6_isLike mm_X0_206 mi_X6_isLike ml_X6_isLike ⟨(Nat.le_of_ble_eq_true rfl), (Nat.le_of_ble_eq_true rfl)⟩ rfl hl.1 rfl (Nat.le_of_ble_eq_true rfl) dX0_isLike_8 ⟨(Nat.le_of_ble_eq_true rfl), (Nat.le_of_ble_eq_true rfl)⟩) (kx_no rfl) (fun r13 u12 H locs hp11 G => ?_)
  obtain ⟨hb14, eu12⟩ := hp11
  rw [eu12] at G
  refine lv_if_eq (tgt := 143) hx hb dX0_isLike_11 (by decide) (fun c15 => ?_) (fun c15 => ?_)
  · refine lv_iconst (v := 0) hx hb dX0_isLike_143 (by decide) ?_
    exact g_zret C0 G hr dX0_isLike_144 rfl (Nat.le_of_ble_eq_true rfl) (Nat.le_of_ble_eq_true rfl) (by exact ⟨(Or.inl rfl), rfl⟩)
  · refine lv_aload_n hx hb dX0_isLike_14 rfl (lv_at hl 0 rfl) ?_
    refine g_get C0 G h_i rfl hiX0 1 (by decide) mf_X0_20 rfl dX0_isLike_15 ?_
    refine lv_aload_n hx hb dX0_isLike_18 rfl (lv_at hl 1 rfl) ?_
    refine g_get C0 G h_i_o rfl hiX0 1 (by decide) mf_X0_20 rfl dX0_isLike_19 ?_
    refine g_cI C0 G (g_runV C0 G (rest := []) (c_X6_isLike hfl (n := 66) (C := 6) (r := 11) (g := g1) (n_o := 66) (C_o := 6) (r_o := 11) (g_o := g1_o) h_t1 h_a1 h_t1_o h_a1_o (by omega) (by omega) (by omega) (by omega) (by omega) (by omega)) h_t1 rfl hY_X6_isLike mm_X0_206 mi_X6_isLike ml_X6_isLike ⟨(Nat.le_of_ble_eq_true rfl), (Nat.le_of_ble_eq_true rfl)⟩ rfl hl.1 rfl (Nat.le_of_ble_eq_true rfl) dX0_isLike_22 ⟨(Nat.le_of_ble_eq_true rfl), (Nat.le_of_ble_eq_true rfl)⟩) (kx_no rfl) (fun r18 u17 H locs hp16 G => ?_)
    obtain ⟨hb19, eu17⟩ := hp16
    rw [eu17] at G
    refine lv_if_eq (tgt := 143) hx hb dX0_isLike_25 (by decide) (fun c20 => ?_) (fun c20 => ?_)
    · refine lv_iconst (v := 0) hx hb dX0_isLike_143 (by decide) ?_
      exact g_zret C0 G hr dX0_isLike_144 rfl (Nat.le_of_ble_eq_true rfl) (Nat.le_of_ble_eq_true rfl) (by exact ⟨(Or.inl rfl), rfl⟩)
    · refine lv_aload_n hx hb dX0_isLike_28 rfl (lv_at hl 0 rfl) ?_
      refine g_get C0 G h_i rfl hiX0 2 (by decide) mf_X0_23 rfl dX0_isLike_29 ?_
      refine lv_aload_n hx hb dX0_isLike_32 rfl (lv_at hl 1 rfl) ?_
      refine g_get C0 G h_i_o rfl hiX0 2 (by decide) mf_X0_23 rfl dX0_isLike_33 ?_
      refine g_cI C0 G (g_runV C0 G (rest := []) (c_X6_isLike hfl (n := 77) (C := 7) (r := 11) (g := g2) (n_o := 77) (C_o := 7) (r_o := 11) (g_o := g2_o) h_t2 h_a2 h_t2_o h_a2_o (by omega) (by omega) (by omega) (by omega) (by omega) (by omega)) h_t2 rfl hY_X6_isLike mm_X0_206 mi_X6_isLike ml_X6_isLike ⟨(Nat.le_of_ble_eq_true rfl), (Nat.le_of_ble_eq_true rfl)⟩ rfl hl.1 rfl (Nat.le_of_ble_eq_true rfl) dX0_isLike_36 ⟨(Nat.le_of_ble_eq_true rfl), (Nat.le_of_ble_eq_true rfl)⟩) (kx_no rfl) (fun r23 u22 H locs hp21 G => ?_)
      obtain ⟨hb24, eu22⟩ := hp21
      rw [eu22] at G
      refine lv_if_eq (tgt := 143) hx hb dX0_isLike_39 (by decide) (fun c25 => ?_) (fun c25 => ?_)
      · refine lv_iconst (v := 0) hx hb dX0_isLike_143 (by decide) ?_
        exact g_zret C0 G hr dX0_isLike_144 rfl (Nat.le_of_ble_eq_true rfl) (Nat.le_of_ble_eq_true rfl) (by exact ⟨(Or.inl rfl), rfl⟩)
      · refine lv_aload_n hx hb dX0_isLike_42 rfl (lv_at hl 0 rfl) ?_
        refine g_get C0 G h_i rfl hiX0 3 (by decide) mf_X0_26 rfl dX0_isLike_43 ?_
        refine lv_aload_n hx hb dX0_isLike_46 rfl (lv_at hl 1 rfl) ?_
        refine g_get C0 G h_i_o rfl hiX0 3 (by decide) mf_X0_26 rfl dX0_isLike_47 ?_
        refine g_cI C0 G (g_runV C0 G (rest := []) (c_X6_isLike hfl (n := 4104) (C := 8) (r := rp) (g := g3) (n_o := 4104) (C_o := 8) (r_o := rp_o) (g_o := g3_o) h_t3 h_a3 h_t3_o h_a3_o (by omega) (by omega) (by omega) (by omega) (by omega) (by omega)) h_t3 rfl hY_X6_isLike mm_X0_206 mi_X6_isLike ml_X6_isLike ⟨(Nat.le_of_ble_eq_true rfl), (Nat.le_of_ble_eq_true rfl)⟩ rfl hl.1 rfl (Nat.le_of_ble_eq_true rfl) dX0_isLike_50 ⟨(Nat.le_of_ble_eq_true rfl), (Nat.le_of_ble_eq_true rfl)⟩) (kx_no rfl) (fun r28 u27 H locs hp26 G => ?_)
        obtain ⟨hb29, eu27⟩ := hp26
        rw [eu27] at G
        refine lv_if_eq (tgt := 143) hx hb dX0_isLike_53 (by decide) (fun c30 => ?_) (fun c30 => ?_)
        · refine lv_iconst (v := 0) hx hb dX0_isLike_143 (by decide) ?_
          exact g_zret C0 G hr dX0_isLike_144 rfl (Nat.le_of_ble_eq_true rfl) (Nat.le_of_ble_eq_true rfl) (by exact ⟨(Or.inl rfl), rfl⟩)
        · refine lv_aload_n hx hb dX0_isLike_56 rfl (lv_at hl 0 rfl) ?_
          refine g_get C0 G h_i rfl hiX0 4 (by decide) mf_X0_29 rfl dX0_isLike_57 ?_
          refine lv_aload_n hx hb dX0_isLike_60 rfl (lv_at hl 1 rfl) ?_
          refine g_get C0 G h_i_o rfl hiX0 4 (by decide) mf_X0_29 rfl dX0_isLike_61 ?_
          refine g_cI C0 G (g_runV C0 G (rest := []) (c_X6_isLike hfl (n := 33) (C := 3) (r := rf) (g := g4) (n_o := 33) (C_o := 3) (r_o := rf_o) (g_o := g4_o) h_t4 h_a4 h_t4_o h_a4_o (by omega) (by omega) (by omega) (by omega) (by omega) (by omega)) h_t4 rfl hY_X6_isLike mm_X0_206 mi_X6_isLike ml_X6_isLike ⟨(Nat.le_of_ble_eq_true rfl), (Nat.le_of_ble_eq_true rfl)⟩ rfl hl.1 rfl (Nat.le_of_ble_eq_true rfl) dX0_isLike_64 ⟨(Nat.le_of_ble_eq_true rfl), (Nat.le_of_ble_eq_true rfl)⟩) (kx_no rfl) (fun r33 u32 H locs hp31 G => ?_)
          obtain ⟨hb34, eu32⟩ := hp31
          rw [eu32] at G
          refine lv_if_eq (tgt := 143) hx hb dX0_isLike_67 (by decide) (fun c35 => ?_) (fun c35 => ?_)
          · refine lv_iconst (v := 0) hx hb dX0_isLike_143 (by decide) ?_
            exact g_zret C0 G hr dX0_isLike_144 rfl (Nat.le_of_ble_eq_true rfl) (Nat.le_of_ble_eq_true rfl) (by exact ⟨(Or.inl rfl), rfl⟩)
          · refine lv_aload_n hx hb dX0_isLike_70 rfl (lv_at hl 0 rfl) ?_
            refine g_get C0 G h_i rfl hiX0 5 (by decide) mf_X0_35 rfl dX0_isLike_71 ?_
            refine lv_aload_n hx hb dX0_isLike_74 rfl (lv_at hl 1 rfl) ?_
            refine g_get C0 G h_i_o rfl hiX0 5 (by decide) mf_X0_35 rfl dX0_isLike_75 ?_
            refine g_cI C0 G (g_runV C0 G (rest := []) (c_X3_isLike hfl (oc := oc) (go := go) (lm := lm) (lf := lf) (bw := bw) (bb := bb) (bl := bl) (cd := cd) (hbg := hbg) (oc_o := oc_o) (go_o := go_o) (lm_o := lm_o) (lf_o := lf_o) (bw_o := bw_o) (bb_o := bb_o) (bl_o := bl_o) (cd_o := cd_o) (hbg_o := hbg_o) h_o h_oa h_o_o h_oa_o (by omega) (by omega)) h_o rfl hY_X3_isLike mm_X0_210 mi_X3_isLike ml_X3_isLike ⟨(Nat.le_of_ble_eq_true rfl), (Nat.le_of_ble_eq_true rfl)⟩ rfl hl.1 rfl (Nat.le_of_ble_eq_true rfl) dX0_isLike_78 ⟨(Nat.le_of_ble_eq_true rfl), (Nat.le_of_ble_eq_true rfl)⟩) (kx_no rfl) (fun r38 u37 H locs hp36 G => ?_)
            obtain ⟨hb39, eu37⟩ := hp36
            rw [eu37] at G
            refine lv_if_eq (tgt := 143) hx hb dX0_isLike_81 (by decide) (fun c40 => ?_) (fun c40 => ?_)
            · refine lv_iconst (v := 0) hx hb dX0_isLike_143 (by decide) ?_
              exact g_zret C0 G hr dX0_isLike_144 rfl (Nat.le_of_ble_eq_true rfl) (Nat.le_of_ble_eq_true rfl) (by exact ⟨(Or.inl rfl), rfl⟩)
            · refine lv_aload_n hx hb dX0_isLike_84 rfl (lv_at hl 0 rfl) ?_
              refine g_get C0 G h_i rfl hiX0 6 (by decide) mf_X0_39 rfl dX0_isLike_85 ?_
              refine lv_aload_n hx hb dX0_isLike_88 rfl (lv_at hl 1 rfl) ?_
              refine g_get C0 G h_i_o rfl hiX0 6 (by decide) mf_X0_39 rfl dX0_isLike_89 ?_
              refine lv_icmp_ne (tgt := 143) hx hb dX0_isLike_92 (by decide) (fun c41 => ?_) (fun c41 => ?_)
              · refine lv_iconst (v := 0) hx hb dX0_isLike_143 (by decide) ?_
                exact g_zret C0 G hr dX0_isLike_144 rfl (Nat.le_of_ble_eq_true rfl) (Nat.le_of_ble_eq_true rfl) (by exact ⟨(Or.inl rfl), rfl⟩)
              · refine lv_aload_n hx hb dX0_isLike_95 rfl (lv_at hl 0 rfl) ?_
                refine g_get C0 G h_i rfl hiX0 7 (by decide) mf_X0_43 rfl dX0_isLike_96 ?_
                refine lv_aload_n hx hb dX0_isLike_99 rfl (lv_at hl 1 rfl) ?_
                refine g_get C0 G h_i_o rfl hiX0 7 (by decide) mf_X0_43 rfl dX0_isLike_100 ?_
                refine lv_icmp_ne (tgt := 143) hx hb dX0_isLike_103 (by decide) (fun c42 => ?_) (fun c42 => ?_)
                · refine lv_iconst (v := 0) hx hb dX0_isLike_143 (by decide) ?_
                  exact g_zret C0 G hr dX0_isLike_144 rfl (Nat.le_of_ble_eq_true rfl) (Nat.le_of_ble_eq_true rfl) (by exact ⟨(Or.inl rfl), rfl⟩)
                · refine lv_aload_n hx hb dX0_isLike_106 rfl (lv_at hl 0 rfl) ?_
                  refine g_get C0 G h_i rfl hiX0 8 (by decide) mf_X0_46 rfl dX0_isLike_107 ?_
                  refine lv_aload_n hx hb dX0_isLike_110 rfl (lv_at hl 1 rfl) ?_
                  refine g_get C0 G h_i_o rfl hiX0 8 (by decide) mf_X0_46 rfl dX0_isLike_111 ?_
                  refine lv_icmp_ne (tgt := 143) hx hb dX0_isLike_114 (by decide) (fun c43 => ?_) (fun c43 => ?_)
                  · refine lv_iconst (v := 0) hx hb dX0_isLike_143 (by decide) ?_
                    exact g_zret C0 G hr dX0_isLike_144 rfl (Nat.le_of_ble_eq_true rfl) (Nat.le_of_ble_eq_true rfl) (by exact ⟨(Or.inl rfl), rfl⟩)
                  · refine lv_aload_n hx hb dX0_isLike_117 rfl (lv_at hl 0 rfl) ?_
                    refine g_get C0 G h_i rfl hiX0 9 (by decide) mf_X0_49 rfl dX0_isLike_118 ?_
                    refine lv_aload_n hx hb dX0_isLike_121 rfl (lv_at hl 1 rfl) ?_
                    refine g_get C0 G h_i_o rfl hiX0 9 (by decide) mf_X0_49 rfl dX0_isLike_122 ?_
                    refine lv_icmp_ne (tgt := 143) hx hb dX0_isLike_125 (by decide) (fun c44 => ?_) (fun c44 => ?_)
                    · refine lv_iconst (v := 0) hx hb dX0_isLike_143 (by decide) ?_
                      exact g_zret C0 G hr dX0_isLike_144 rfl (Nat.le_of_ble_eq_true rfl) (Nat.le_of_ble_eq_true rfl) (by exact ⟨(Or.inl rfl), rfl⟩)
                    · refine lv_aload_n hx hb dX0_isLike_128 rfl (lv_at hl 0 rfl) ?_
                      refine g_get C0 G h_i rfl hiX0 10 (by decide) mf_X0_52 rfl dX0_isLike_129 ?_
                      refine lv_aload_n hx hb dX0_isLike_132 rfl (lv_at hl 1 rfl) ?_
                      refine g_get C0 G h_i_o rfl hiX0 10 (by decide) mf_X0_52 rfl dX0_isLike_133 ?_
                      refine lv_icmp_ne (tgt := 143) hx hb dX0_isLike_136 (by decide) (fun c45 => ?_) (fun c45 => ?_)
                      · refine lv_iconst (v := 0) hx hb dX0_isLike_143 (by decide) ?_
                        exact g_zret C0 G hr dX0_isLike_144 rfl (Nat.le_of_ble_eq_true rfl) (Nat.le_of_ble_eq_true rfl) (by exact ⟨(Or.inl rfl), rfl⟩)
                      · refine lv_iconst (v := 1) hx hb dX0_isLike_139 (by decide) ?_
                        refine lv_goto (tgt := 144) hx hb dX0_isLike_140 (by decide) ?_
                        exact g_zret C0 G hr dX0_isLike_144 rfl (Nat.le_of_ble_eq_true rfl) (Nat.le_of_ble_eq_true rfl) (by exact ⟨(Or.inr rfl), rfl⟩)
