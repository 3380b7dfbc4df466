def X1_copy_g0 (ge : Nat → Int32) (ge_o : Nat → Int32) : Nat → Int32 := va_cpy ge_o ge 0 0 512
set_option maxRecDepth 100000 in
theorem c_X1_copy {l : Launch} (hfl : l.stackTraces = false) {D : va_G} {cy : Nat → ClassId} {f : Hf} {sz : Nat} {lg : Nat} {no : Nat} {sa : Nat} {ea : Nat} {lg_o : Nat} {no_o : Nat} {sa_o : Nat} {ea_o : Nat} {lo : Int32} {le : Int32} {lfi : Int32} {lcm : Int32} {lun : Int32} {lo_o : Int32} {le_o : Int32} {lfi_o : Int32} {lcm_o : Int32} {lun_o : Int32} {lsc : Int32} {nS : Nat} {qs : Nat → Option Nat} {qs_o : Nat → Option Nat} {ge : Nat → Int32} {ge_o : Nat → Int32} {sq : Nat → Nat} {SS : Nat → Nat → Int32} (h_lg : f lg = some (.inr (3, [.ref no, .ref sa, .ref ea, .int lo, .int le, .int lfi, .int lsc, .int lcm, .int lun]))) (h_sa : f sa = some (.inl (cy 4, 512, .inr (.inr (.inr (.inr qs)))))) (h_ea : f ea = some (.inl (cy 0, 512, .inl ge))) (h_lg_o : f lg_o = some (.inr (3, [.ref no_o, .ref sa_o, .ref ea_o, .int lo_o, .int le_o, .int lfi_o, .int (nI nS), .int lcm_o, .int lun_o]))) (h_sa_o : f sa_o = some (.inl (cy 4, 512, .inr (.inr (.inr (.inr qs_o)))))) (h_ea_o : f ea_o = some (.inl (cy 0, 512, .inl ge_o))) (hlg : lg ≠ lg_o) (hsa : sa ≠ sa_o) (hea : ea ≠ ea_o) (hnS : nS ≤ 512) (hsq : ∀ j, j < nS → qs_o j = some (sq j) ∧ f (sq j) = some (scell (SS j))) : hMet l yX1_copy cX1_copy 3 none { frames := 1, cells := 0, slots := 0, locals := 23 } D (hTy cy) f sz [.ref lg, .ref lg_o] (hQv (fun u => u lg = some (.inr (3, [.ref no, .ref sa, .ref ea, .int lo_o, .int le_o, .int lfi_o, .int (nI nS), .int lcm_o, .int 0])) ∧ u sa = some (.inl (cy 4, 512, .inr (.inr (.inr (.inr (cpq qs_o qs nS)))))) ∧ u ea = some (.inl (cy 0, 512, .inl (X1_copy_g0 ge ge_o))) ∧ hFrL f u [lg, sa, ea]) D f sz) hNo := by
  refine h_enter (by decide) hfl (Nat.le_of_ble_eq_true rfl) ?_
  intro p9 e9 s9 m9 b9 t9 c9 hsz C0 hr hnm G ls hl
  have hx := C0.1.1
  have hb := C0.1.2.1
  have hl : lv_has ls 3 [(0, .ref lg), (1, .ref lg_o)] := hl
  refine lv_aload_n hx hb dX1_copy_0 rfl (lv_at hl 0 rfl) ?_
  refine lv_aload_n hx hb dX1_copy_1 rfl (lv_at hl 1 rfl) ?_
  refine g_get C0 G h_lg_o rfl hiX1 3 (by decide) mf_X1_28 rfl dX1_copy_2 ?_
  refine lv_aload_n hx hb dX1_copy_5 rfl (lv_at hl 1 rfl) ?_
  refine g_get C0 G h_lg_o rfl hiX1 4 (by decide) mf_X1_32 rfl dX1_copy_6 ?_
  refine lv_aload_n hx hb dX1_copy_9 rfl (lv_at hl 1 rfl) ?_
  refine g_get C0 G h_lg_o rfl hiX1 5 (by decide) mf_X1_35 rfl dX1_copy_10 ?_
  refine g_cV C0 G (g_runV C0 G (rest := []) (c_X1_start hfl (lo := lo) (le := le) (lfi := lfi) (lsc := lsc) (lcm := lcm) (lun := lun) lo_o le_o lfi_o h_lg) h_lg rfl hY_X1_start mm_X1_53 mi_X1_start ml_X1_start ⟨(Nat.le_of_ble_eq_true rfl), (Nat.le_of_ble_eq_true rfl)⟩ rfl hl.1 rfl (Nat.le_of_ble_eq_true rfl) dX1_copy_13 ⟨(Nat.le_of_ble_eq_true rfl), (Nat.le_of_ble_eq_true rfl)⟩) (kx_no rfl) (fun u12 H locs hp11 G => ?_)
  obtain ⟨k13, fr14⟩ := hp11
  refine lv_iconst (v := 0) hx hb dX1_copy_16 (by decide) ?_
  refine lv_istore_n (lv' := [(2, .int 0), (0, .ref lg), (1, .ref lg_o)]) hx hb dX1_copy_17 rfl hl (by decide) rfl (fun ls hl => ?_)
  have k15 : u12 sa = some (.inl (cy 4, 512, .inr (.inr (.inr (.inr qs))))) := fr14 _ _ (by simp only [List.mem_cons, List.not_mem_nil, or_false]; intro q; exact (hne h_sa h_lg (by intro q; cases q)) q) h_sa
  refine W.widen (k := 0) (n := 0) (Nat.le_of_ble_eq_true rfl) (Nat.le_of_ble_eq_true rfl) ?_
  have LOOP18 : ∀ (k : Nat) (jj : Nat) (f1 : Hf) (H : Heap) (locs : List Loc) (ls : Array Slot), (jj ≤ nS) → (nS - jj < k) → f1 lg = some (.inr (3, [.ref no, .ref sa, .ref ea, .int lo_o, .int le_o, .int lfi_o, .int (nI jj), .int 0, .int 0])) → f1 sa = some (.inl (cy 4, 512, .inr (.inr (.inr (.inr (cpq qs_o qs jj)))))) → hFrL u12 f1 [lg, sa] → hG D (hA f sz) f1 s9 H locs → lv_has ls 3 [(2, .int (nI jj)), (0, .ref lg), (1, .ref lg_o)] → W p9 l e9 ({ frames := 1, cells := 0, slots := 0, locals := 23 } : Room) s9 m9 ([.ref lg, .ref lg_o] : List Value).toArray b9 t9 c9 H locs 0 0 (vx_MQ b9 (hQv (fun u => u lg = some (.inr (3, [.ref no, .ref sa, .ref ea, .int lo_o, .int le_o, .int lfi_o, .int (nI nS), .int lcm_o, .int 0])) ∧ u sa = some (.inl (cy 4, 512, .inr (.inr (.inr (.inr (cpq qs_o qs nS)))))) ∧ u ea = some (.inl (cy 0, 512, .inl (X1_copy_g0 ge ge_o))) ∧ hFrL f u [lg, sa, ea]) D f sz) (hPx hNo D f sz) ([.ref lg, .ref lg_o] : List Value).toArray s9 0 0 (hA f sz)) (F0 m9 18 ls []) := by
    intro k
    induction k with
    | zero =>
      intro jj f1 H locs ls hi2 hk h_lg1 h_sa1 hfr G hl
      exact absurd hk (by omega)
    | succ k ih =>
      intro jj f1 H locs ls hi2 hk h_lg1 h_sa1 hfr G hl
      rcases Nat.lt_or_ge jj nS with hlt | hge
      · have hs16 : f (sq jj) = some (.inr (7, [.int (SS jj 0), .int (SS jj 1), .int (SS jj 2), .int (SS jj 3), .int (SS jj 4), .int (SS jj 5), .int (SS jj 6), .int (SS jj 7), .int (SS jj 8)])) := (hsq jj hlt).2
        refine lv_iload_n hx hb dX1_copy_18 rfl (lv_at hl 0 rfl) ?_
        refine lv_aload_n hx hb dX1_copy_19 rfl (lv_at hl 2 rfl) ?_
        have k17 : f1 lg_o = some (.inr (3, [.ref no_o, .ref sa_o, .ref ea_o, .int lo_o, .int le_o, .int lfi_o, .int (nI nS), .int lcm_o, .int lun_o])) := hfr _ _ (by simp only [List.mem_cons, List.not_mem_nil, or_false]; intro q; rcases q with q | q; exact (Ne.symm hlg) q; exact (hne (fr14 _ _ (by simp only [List.mem_cons, List.not_mem_nil, or_false]; intro q; exact (Ne.symm hlg) q) h_lg_o) k15 (by intro q; cases q)) q) (fr14 _ _ (by simp only [List.mem_cons, List.not_mem_nil, or_false]; intro q; exact (Ne.symm hlg) q) h_lg_o)
        refine g_get C0 G k17 rfl hiX1 6 (by decide) mf_X1_38 rfl dX1_copy_20 ?_
        refine lv_icmp_ge (tgt := 41) hx hb dX1_copy_23 (by decide) (fun c18 => absurd c18 ((fun q => absurd ((nI_leI (a := nS) (b := jj) (by omega) (by omega)).mp q) (by omega)))) (fun _ => ?_)
        refine lv_aload_n hx hb dX1_copy_26 rfl (lv_at hl 1 rfl) ?_
        refine lv_aload_n hx hb dX1_copy_27 rfl (lv_at hl 2 rfl) ?_
        refine lv_iload_n hx hb dX1_copy_28 rfl (lv_at hl 0 rfl) ?_
        have k19 : f1 sa_o = some (.inl (cy 4, 512, .inr (.inr (.inr (.inr qs_o))))) := hfr _ _ (by simp only [List.mem_cons, List.not_mem_nil, or_false]; intro q; rcases q with q | q; exact (hne (fr14 _ _ (by simp only [List.mem_cons, List.not_mem_nil, or_false]; intro q; exact (hne h_sa_o h_lg (by intro q; cases q)) q) h_sa_o) k13 (by intro q; cases q)) q; exact (Ne.symm hsa) q) (fr14 _ _ (by simp only [List.mem_cons, List.not_mem_nil, or_false]; intro q; exact (hne h_sa_o h_lg (by intro q; cases q)) q) h_sa_o)
        refine g_cR C0 G (g_runV C0 G (rest := [.ref lg]) (c_X1_step hfl (lo := lo_o) (le := le_o) (lfi := lfi_o) (lcm := lcm_o) (lun := lun_o) (nS := nS) (jj := jj) (qs := qs_o) k17 k19 hlt hnS (hsq jj hlt).1) k17 rfl hY_X1_step mm_X1_57 mi_X1_step ml_X1_step ⟨(Nat.le_of_ble_eq_true rfl), (Nat.le_of_ble_eq_true rfl)⟩ rfl hl.1 rfl (Nat.le_of_ble_eq_true rfl) dX1_copy_29 ⟨(Nat.le_of_ble_eq_true rfl), (Nat.le_of_ble_eq_true rfl)⟩) (kx_no rfl) (fun a22 u21 H locs hp20 G => ?_)
        obtain ⟨zr, eu21⟩ := hp20
        replace zr := Eq.symm zr
        subst zr
        rw [eu21] at G
        have k23 : f1 (sq jj) = some (.inr (7, [.int (SS jj 0), .int (SS jj 1), .int (SS jj 2), .int (SS jj 3), .int (SS jj 4), .int (SS jj 5), .int (SS jj 6), .int (SS jj 7), .int (SS jj 8)])) := hfr _ _ (by simp only [List.mem_cons, List.not_mem_nil, or_false]; intro q; rcases q with q | q; exact (hne (fr14 _ _ (by simp only [List.mem_cons, List.not_mem_nil, or_false]; intro q; exact (hne hs16 h_lg (by intro q; cases q)) q) hs16) k13 (by intro q; cases q)) q; exact (hne (fr14 _ _ (by simp only [List.mem_cons, List.not_mem_nil, or_false]; intro q; exact (hne hs16 h_lg (by intro q; cases q)) q) hs16) k15 (by intro q; cases q)) q) (fr14 _ _ (by simp only [List.mem_cons, List.not_mem_nil, or_false]; intro q; exact (hne hs16 h_lg (by intro q; cases q)) q) hs16)
        refine g_cV C0 G (g_runV C0 G (rest := []) (c_X1_add hfl (lo := lo_o) (le := le_o) (lfi := lfi_o) (lcm := 0) (lun := 0) (nS := jj) (qs := cpq qs_o qs jj) (ty := (SS jj 0)) (nu := (SS jj 1)) (wy := (SS jj 2)) (kd := (SS jj 3)) (ru := (SS jj 4)) (so := (SS jj 5)) (sb := (SS jj 6)) (sc := (SS jj 7)) (sh := (SS jj 8)) h_lg1 h_sa1 k23 (by omega)) h_lg1 rfl hY_X1_add mm_X1_61 mi_X1_add ml_X1_add ⟨(Nat.le_of_ble_eq_true rfl), (Nat.le_of_ble_eq_true rfl)⟩ rfl hl.1 rfl (Nat.le_of_ble_eq_true rfl) dX1_copy_32 ⟨(Nat.le_of_ble_eq_true rfl), (Nat.le_of_ble_eq_true rfl)⟩) (kx_no rfl) (fun u25 H locs hp24 G => ?_)
        obtain ⟨k26, k27, fr28⟩ := hp24
        refine lv_iinc (v := nI (jj + 1)) (lv' := [(2, .int (nI (jj + 1))), (0, .ref lg), (1, .ref lg_o)]) hx hb dX1_copy_35 hl (k := 0) rfl (by exact (nI_add _ _)) (by decide) rfl (fun ls hl => ?_)
        refine lv_goto (tgt := 18) hx hb dX1_copy_38 (by decide) ?_
        exact ih (jj + 1) u25 _ _ _ (by omega) (by omega) k27 (by have h9 := k26; rw [cpq_s _ _ _ _ (hsq jj hlt).1] at h9; exact h9) (fun a9 e9 h7 h8 => fr28 _ _ (fun q => h7 (by simp only [List.mem_cons, List.not_mem_nil, or_false] at q ⊢; first | exact q | (rcases q with q | q <;> simp [q]) | omega)) (hfr _ _ (fun q => h7 (by simp only [List.mem_cons, List.not_mem_nil, or_false] at q ⊢; first | exact q | (rcases q with q | q <;> simp [q]) | omega)) (h8))) G (lv_sub hl [0, 1, 2] rfl)
      · have hi9 : nS = jj := by omega
        subst hi9
        refine lv_iload_n hx hb dX1_copy_18 rfl (lv_at hl 0 rfl) ?_
        refine lv_aload_n hx hb dX1_copy_19 rfl (lv_at hl 2 rfl) ?_
        have k30 : f1 lg_o = some (.inr (3, [.ref no_o, .ref sa_o, .ref ea_o, .int lo_o, .int le_o, .int lfi_o, .int (nI nS), .int lcm_o, .int lun_o])) := hfr _ _ (by simp only [List.mem_cons, List.not_mem_nil, or_false]; intro q; rcases q with q | q; exact (Ne.symm hlg) q; exact (hne (fr14 _ _ (by simp only [List.mem_cons, List.not_mem_nil, or_false]; intro q; exact (Ne.symm hlg) q) h_lg_o) k15 (by intro q; cases q)) q) (fr14 _ _ (by simp only [List.mem_cons, List.not_mem_nil, or_false]; intro q; exact (Ne.symm hlg) q) h_lg_o)
        refine g_get C0 G k30 rfl hiX1 6 (by decide) mf_X1_38 rfl dX1_copy_20 ?_
        refine lv_icmp_ge (tgt := 41) hx hb dX1_copy_23 (by decide) (fun _ => ?_) (fun c31 => absurd (((nI_leI (by omega) (by omega)).mpr (Nat.le_refl _))) c31)
        refine lv_aload_n hx hb dX1_copy_41 rfl (lv_at hl 2 rfl) ?_
        refine g_get C0 G k30 rfl hiX1 2 (by decide) mf_X1_24 rfl dX1_copy_42 ?_
        refine lv_iconst (v := 0) hx hb dX1_copy_45 (by decide) ?_
        refine lv_aload_n hx hb dX1_copy_46 rfl (lv_at hl 1 rfl) ?_
        refine g_get C0 G h_lg1 rfl hiX1 2 (by decide) mf_X1_24 rfl dX1_copy_47 ?_
        refine lv_iconst (v := 0) hx hb dX1_copy_50 (by decide) ?_
        refine lv_aload_n hx hb dX1_copy_51 rfl (lv_at hl 1 rfl) ?_
        refine g_get C0 G h_lg1 rfl hiX1 2 (by decide) mf_X1_24 rfl dX1_copy_52 ?_
        have k32 : f1 ea = some (.inl (cy 0, 512, .inl ge)) := hfr _ _ (by simp only [List.mem_cons, List.not_mem_nil, or_false]; intro q; rcases q with q | q; exact (hne (fr14 _ _ (by simp only [List.mem_cons, List.not_mem_nil, or_false]; intro q; exact (hne h_ea h_lg (by intro q; cases q)) q) h_ea) k13 (by intro q; cases q)) q; exact (hne (fr14 _ _ (by simp only [List.mem_cons, List.not_mem_nil, or_false]; intro q; exact (hne h_ea h_lg (by intro q; cases q)) q) h_ea) k15 (by intro q; first | (cases q; done) | (simp at q; done))) q) (fr14 _ _ (by simp only [List.mem_cons, List.not_mem_nil, or_false]; intro q; exact (hne h_ea h_lg (by intro q; cases q)) q) h_ea)
        refine g_alen C0 G k32 0 rfl (v := 512) rfl dX1_copy_55 ?_
        have k33 : f1 ea_o = some (.inl (cy 0, 512, .inl ge_o)) := hfr _ _ (by simp only [List.mem_cons, List.not_mem_nil, or_false]; intro q; rcases q with q | q; exact (hne (fr14 _ _ (by simp only [List.mem_cons, List.not_mem_nil, or_false]; intro q; exact (hne h_ea_o h_lg (by intro q; cases q)) q) h_ea_o) k13 (by intro q; cases q)) q; exact (hne (fr14 _ _ (by simp only [List.mem_cons, List.not_mem_nil, or_false]; intro q; exact (hne h_ea_o h_lg (by intro q; cases q)) q) h_ea_o) k15 (by intro q; first | (cases q; done) | (simp at q; done))) q) (fr14 _ _ (by simp only [List.mem_cons, List.not_mem_nil, or_false]; intro q; exact (hne h_ea_o h_lg (by intro q; cases q)) q) h_ea_o)
        refine g_acopy C0 G k33 k32 0 rfl mm_X1_65 ms_java_lang_System_arraycopy__Ljava_lang_Object_ILjava_lang_Object_II_V mna_acopy mini_acopy (sp := 0) (dp := 0) (n := 512) (by decide) (by decide) (by decide) (by decide) (by decide) hl.1 (Nat.le_of_ble_eq_true rfl) (Nat.le_of_ble_eq_true rfl) dX1_copy_56 (fun H locs f34 hf34 G => ?_)
        have k35 : f34 ea = some (.inl (cy 0, 512, .inl (va_cpy ge_o ge 0 0 512))) := hus hf34
        refine lv_aload_n hx hb dX1_copy_59 rfl (lv_at hl 1 rfl) ?_
        refine lv_aload_n hx hb dX1_copy_60 rfl (lv_at hl 2 rfl) ?_
        have k36 : f34 lg_o = some (.inr (3, [.ref no_o, .ref sa_o, .ref ea_o, .int lo_o, .int le_o, .int lfi_o, .int (nI nS), .int lcm_o, .int lun_o])) := hup hf34 (hne k30 k32 (by intro q; cases q)) k30
        refine g_get C0 G k36 rfl hiX1 7 (by decide) mf_X1_41 rfl dX1_copy_61 ?_
        have k37 : f34 lg = some (.inr (3, [.ref no, .ref sa, .ref ea, .int lo_o, .int le_o, .int lfi_o, .int (nI nS), .int 0, .int 0])) := hup hf34 (hne h_lg1 k32 (by intro q; cases q)) h_lg1
        refine g_put C0 G k37 rfl hiX1 tyX1 tyX1_ok nmX1 7 (by decide) mf_X1_41 rfl rfl rfl rfl (Nat.le_of_ble_eq_true rfl) dX1_copy_64 (fun H locs f38 hf38 G => ?_)
        have k39 : f38 lg = some (.inr (3, [.ref no, .ref sa, .ref ea, .int lo_o, .int le_o, .int lfi_o, .int (nI nS), .int lcm_o, .int 0])) := hus hf38
        have k40 : f38 sa = some (.inl (cy 4, 512, .inr (.inr (.inr (.inr (cpq qs_o qs nS)))))) := hup hf38 (hne (hup hf34 (hne h_sa1 k32 (by intro q; first | (cases q; done) | (simp at q; done))) h_sa1) k37 (by intro q; cases q)) (hup hf34 (hne h_sa1 k32 (by intro q; first | (cases q; done) | (simp at q; done))) h_sa1)
        have k41 : f38 ea = some (.inl (cy 0, 512, .inl (va_cpy ge_o ge 0 0 512))) := hup hf38 (hne k35 k37 (by intro q; cases q)) k35
        exact g_vret C0 G hr dX1_copy_67 (Nat.le_of_ble_eq_true rfl) (Nat.le_of_ble_eq_true rfl) (by exact ⟨k39, k40, (by rw [(by rw [X1_copy_g0] : (X1_copy_g0 ge ge_o) = (va_cpy ge_o ge 0 0 512))]; exact k41), (fun a9 e9 h7 h8 => hup hf38 (fun q => h7 (by rw [q]; simp)) (hup hf34 (fun q => h7 (by rw [q]; simp)) (hfr _ _ (fun q => h7 (by simp only [List.mem_cons, List.not_mem_nil, or_false] at q ⊢; first | exact q | (rcases q with q | q <;> simp [q]) | omega)) (fr14 _ _ (fun q => h7 (by simp only [List.mem_cons, List.not_mem_nil, or_false] at q ⊢; first | exact q | (rcases q with q <;> simp [q]) | omega)) (h8)))))⟩)
  exact LOOP18 (nS + 1) 0 u12 _ _ _ (by omega) (by omega)  (by exact k13) (by rw [cpq_0]; exact k15) (fun a9 e9 h7 h8 => h8) G (lv_sub hl [0, 1, 2] rfl)
def X4_take_x0 (gf : Nat → UInt32) (gf_o : Nat → UInt32) (jj : Nat) : Int32 := if (Op.cmpValue (FP.fcmp (gf (jj)) (X4_get_r0 jj gf_o)) .l) = 0 then 0 else 1
def X4_take_x1 (gf : Nat → UInt32) (gf_o : Nat → UInt32) (jj : Nat) : Int32 := if (tkC gf gf_o jj) = 0 then (X4_take_x0 gf gf_o jj) else 1
def X4_take_g2 (cn : Nat) (gf : Nat → UInt32) (gf_o : Nat → UInt32) : Nat → UInt32 := cpoF gf 0 gf_o cn
set_option maxRecDepth 100000 in
theorem c_X4_take {l : Launch} (hfl : l.stackTraces = false) {D : va_G} {cy : Nat → ClassId} {f : Hf} {sz : Nat} {rw : Nat} {fe : Nat} {rst : Int32} {rex : Int32} {rln : Int32} {rw_o : Nat} {fe_o : Nat} {rst_o : Int32} {rex_o : Int32} {rln_o : Int32} {cn : Nat} {gf : Nat → UInt32} {gf_o : Nat → UInt32} (h_rw : f rw = some (.inr (6, [.ref fe, .int rst, .int rex, .int rln]))) (h_fe : f fe = some (.inl (cy 2, 20, .inr (.inr (.inl gf))))) (h_rw_o : f rw_o = some (.inr (6, [.ref fe_o, .int rst_o, .int rex_o, .int rln_o]))) (h_fe_o : f fe_o = some (.inl (cy 2, 20, .inr (.inr (.inl gf_o))))) (hfe : fe ≠ fe_o) (hcn : cn ≤ 20) : hMet l yX4_take cX4_take 6 (some .boolean) { frames := 1, cells := 0, slots := 0, locals := 21 } D (hTy cy) f sz [.ref rw, .ref rw_o, .int (nI cn)] (hQi (fun r u => r = (tkC gf gf_o cn) ∧ u fe = some (.inl (cy 2, 20, .inr (.inr (.inl (X4_take_g2 cn gf gf_o))))) ∧ hFrL f u [fe]) D f sz) hNo := by
  refine h_enter (by decide) hfl (Nat.le_of_ble_eq_true rfl) ?_
  intro p9 e9 s9 m9 b9 t9 c9 hsz C0 hr hnm G ls hl
  have hx := C0.1.1
  have hb := C0.1.2.1
  have hl : lv_has ls 6 [(0, .ref rw), (1, .ref rw_o), (2, .int (nI cn))] := hl
  refine lv_iconst (v := 0) hx hb dX4_take_0 (by decide) ?_
  refine lv_istore_n (lv' := [(3, .int 0), (0, .ref rw), (1, .ref rw_o), (2, .int (nI cn))]) hx hb dX4_take_1 rfl hl (by decide) rfl (fun ls hl => ?_)
  refine lv_iconst (v := 0) hx hb dX4_take_2 (by decide) ?_
  refine lv_istore (lv' := [(4, .int 0), (3, .int 0), (0, .ref rw), (1, .ref rw_o), (2, .int (nI cn))]) hx hb dX4_take_3 hl (by decide) rfl (fun ls hl => ?_)
  refine W.widen (k := 0) (n := 0) (Nat.le_of_ble_eq_true rfl) (Nat.le_of_ble_eq_true rfl) ?_
  have LOOP5 : ∀ (k : Nat) (jj : Nat) (f1 : Hf) (H : Heap) (locs : List Loc) (ls : Array Slot), (jj ≤ cn) → (cn - jj < k) → f1 fe = some (.inl (cy 2, 20, .inr (.inr (.inl (cpoF gf 0 gf_o jj))))) → hFrL f f1 [fe] → hG D (hA f sz) f1 s9 H locs → lv_has ls 6 [(4, .int (nI jj)), (3, .int (tkC gf gf_o jj)), (0, .ref rw), (1, .ref rw_o), (2, .int (nI cn))] → W p9 l e9 ({ frames := 1, cells := 0, slots := 0, locals := 21 } : Room) s9 m9 ([.ref rw, .ref rw_o, .int (nI cn)] : List Value).toArray b9 t9 c9 H locs 0 0 (vx_MQ b9 (hQi (fun r u => r = (tkC gf gf_o cn) ∧ u fe = some (.inl (cy 2, 20, .inr (.inr (.inl (X4_take_g2 cn gf gf_o))))) ∧ hFrL f u [fe]) D f sz) (hPx hNo D f sz) ([.ref rw, .ref rw_o, .int (nI cn)] : List Value).toArray s9 0 0 (hA f sz)) (F0 m9 5 ls []) := by
    intro k
    induction k with
    | zero =>
      intro jj f1 H locs ls hi2 hk h_fe1 hfr G hl
      exact absurd hk (by omega)
    | succ k ih =>
      intro jj f1 H locs ls hi2 hk h_fe1 hfr G hl
      refine lv_iload hx hb dX4_take_5 (lv_at hl 0 rfl) ?_
      refine lv_iload_n hx hb dX4_take_7 rfl (lv_at hl 4 rfl) ?_
      refine lv_icmp_ge (tgt := 67) hx hb dX4_take_8 (by decide) (fun c11 => ?_) (fun c11 => ?_)
      · have n12 : cn ≤ jj := (nI_leI (a := cn) (b := jj) (by omega) (by omega)).mp c11
        have hi9 : cn = jj := by omega
        subst hi9
        refine lv_iload_n hx hb dX4_take_67 rfl (lv_at hl 1 rfl) ?_
        exact g_zret C0 G hr dX4_take_68 (hZb (tkC_b _ _ _)) (Nat.le_of_ble_eq_true rfl) (Nat.le_of_ble_eq_true rfl) (by exact ⟨rfl, (by rw [(by rw [X4_take_g2] : (X4_take_g2 cn gf gf_o) = (cpoF gf 0 gf_o cn))]; exact h_fe1), (fun a9 e9 h7 h8 => hfr _ _ (fun q => h7 (by simp only [List.mem_cons, List.not_mem_nil, or_false] at q ⊢; first | exact q | (rcases q with q <;> simp [q]) | omega)) (h8))⟩)
      · have n13 : ¬ cn ≤ jj := fun q => c11 ((nI_leI (a := cn) (b := jj) (by omega) (by omega)).mpr q)
        refine lv_iload hx hb dX4_take_11 (lv_at hl 0 rfl) ?_
        refine lv_aload_n hx hb dX4_take_13 rfl (lv_at hl 2 rfl) ?_
        have k14 : f1 rw = some (.inr (6, [.ref fe, .int rst, .int rex, .int rln])) := hfr _ _ (by simp only [List.mem_cons, List.not_mem_nil, or_false]; intro q; exact (hne h_rw h_fe (by intro q; first | (cases q; done) | (simp at q; done))) q) h_rw
        refine g_get C0 G k14 rfl hiX4 0 (by decide) mf_X4_9 rfl dX4_take_14 ?_
        refine g_alen C0 G h_fe1 2 rfl (v := 20) rfl dX4_take_17 ?_
        refine lv_icmp_ge (tgt := 67) hx hb dX4_take_18 (by decide) (fun c15 => absurd c15 ((fun q => absurd ((nI_leI (a := 20) (b := jj) (by omega) (by omega)).mp q) (by omega)))) (fun _ => ?_)
        refine lv_aload_n hx hb dX4_take_21 rfl (lv_at hl 3 rfl) ?_
        refine lv_iload hx hb dX4_take_22 (lv_at hl 0 rfl) ?_
        have k16 : f1 rw_o = some (.inr (6, [.ref fe_o, .int rst_o, .int rex_o, .int rln_o])) := hfr _ _ (by simp only [List.mem_cons, List.not_mem_nil, or_false]; intro q; exact (hne h_rw_o h_fe (by intro q; first | (cases q; done) | (simp at q; done))) q) h_rw_o
        have k17 : f1 fe_o = some (.inl (cy 2, 20, .inr (.inr (.inl gf_o)))) := hfr _ _ (by simp only [List.mem_cons, List.not_mem_nil, or_false]; intro q; exact (Ne.symm hfe) q) h_fe_o
        refine g_cF C0 G (g_runV C0 G (rest := []) (c_X4_get hfl (rst := rst_o) (rex := rex_o) (rln := rln_o) (kx := jj) (gf := gf_o) k16 k17 (by omega)) k16 rfl hY_X4_get mm_X4_46 mi_X4_get ml_X4_get ⟨(Nat.le_of_ble_eq_true rfl), (Nat.le_of_ble_eq_true rfl)⟩ rfl hl.1 rfl (Nat.le_of_ble_eq_true rfl) dX4_take_24 ⟨(Nat.le_of_ble_eq_true rfl), (Nat.le_of_ble_eq_true rfl)⟩) (kx_no rfl) (fun r20 u19 H locs hp18 G => ?_)
        obtain ⟨zr, eu19⟩ := hp18
        replace zr := Eq.symm zr
        subst zr
        rw [eu19] at G
        refine lv_fstore (lv' := [(5, .float (X4_get_r0 jj gf_o)), (4, .int (nI jj)), (3, .int (tkC gf gf_o jj)), (0, .ref rw), (1, .ref rw_o), (2, .int (nI cn))]) hx hb dX4_take_27 hl (by decide) rfl (fun ls hl => ?_)
        refine lv_iload_n hx hb dX4_take_29 rfl (lv_at hl 2 rfl) ?_
        have J23 : ∀ (y22 : Int32) (_ : y22 = (X4_take_x1 gf gf_o jj)) (H : Heap) (locs : List Loc) (ls : Array Slot), hG D (hA f sz) f1 s9 H locs → lv_has ls 6 [(5, .float (X4_get_r0 jj gf_o)), (4, .int (nI jj)), (3, .int (tkC gf gf_o jj)), (0, .ref rw), (1, .ref rw_o), (2, .int (nI cn))] → W p9 l e9 ({ frames := 1, cells := 0, slots := 0, locals := 21 } : Room) s9 m9 ([.ref rw, .ref rw_o, .int (nI cn)] : List Value).toArray b9 t9 c9 H locs 0 0 (vx_MQ b9 (hQi (fun r u => r = (tkC gf gf_o cn) ∧ u fe = some (.inl (cy 2, 20, .inr (.inr (.inl (X4_take_g2 cn gf gf_o))))) ∧ hFrL f u [fe]) D f sz) (hPx hNo D f sz) ([.ref rw, .ref rw_o, .int (nI cn)] : List Value).toArray s9 0 0 (hA f sz)) (F0 m9 51 ls [.int y22]) := by
          intro y22 ey22 H locs ls G hl
          replace ey22 := Eq.symm ey22
          subst ey22
          refine lv_istore_n (lv' := [(3, .int (X4_take_x1 gf gf_o jj)), (5, .float (X4_get_r0 jj gf_o)), (4, .int (nI jj)), (0, .ref rw), (1, .ref rw_o), (2, .int (nI cn))]) hx hb dX4_take_51 rfl hl (by decide) rfl (fun ls hl => ?_)
          refine lv_aload_n hx hb dX4_take_52 rfl (lv_at hl 3 rfl) ?_
          refine g_get C0 G k14 rfl hiX4 0 (by decide) mf_X4_9 rfl dX4_take_53 ?_
          refine lv_iload hx hb dX4_take_56 (lv_at hl 2 rfl) ?_
          refine lv_fload hx hb dX4_take_58 (lv_at hl 1 rfl) ?_
          refine g_fast C0 G h_fe1 2 rfl (vp_in_nI (by omega) (by omega)) dX4_take_60 (fun H locs f25 hf25 G => ?_)
          have k26 : f25 fe = some (.inl (cy 2, 20, .inr (.inr (.inl (vf_upd (cpoF gf 0 gf_o jj) (nI jj).toNatClampNeg (X4_get_r0 jj gf_o)))))) := hus hf25
          refine lv_iinc (v := nI (jj + 1)) (lv' := [(4, .int (nI (jj + 1))), (3, .int (X4_take_x1 gf gf_o jj)), (5, .float (X4_get_r0 jj gf_o)), (0, .ref rw), (1, .ref rw_o), (2, .int (nI cn))]) hx hb dX4_take_61 hl (k := 2) rfl (by exact (nI_add _ _)) (by decide) rfl (fun ls hl => ?_)
          refine lv_goto (tgt := 5) hx hb dX4_take_64 (by decide) ?_
          exact ih (jj + 1) f25 _ _ _ (by omega) (by omega) (by have h9 := k26; rw [nI_c (by omega), X4_get_r0, cpoF_s0] at h9; exact h9) (fun a9 e9 h7 h8 => hup hf25 (fun q => h7 (by rw [q]; simp)) (hfr _ _ (fun q => h7 (by simp only [List.mem_cons, List.not_mem_nil, or_false] at q ⊢; first | exact q | (rcases q with q <;> simp [q]) | omega)) (h8))) G (lv_sub hl [0, 1, 3, 4, 5] rfl)
        refine lv_if_ne (tgt := 46) hx hb dX4_take_30 (by decide) (fun c21 => ?_) (fun c21 => ?_)
        · refine lv_iconst (v := 1) hx hb dX4_take_46 (by decide) ?_
          refine lv_goto (tgt := 51) hx hb dX4_take_47 (by decide) ?_
          exact J23 1 (by rw [X4_take_x1, if_neg c21]) _ _ _ G (lv_sub hl [0, 1, 2, 3, 4, 5] rfl)
        · refine lv_aload_n hx hb dX4_take_33 rfl (lv_at hl 3 rfl) ?_
          refine g_get C0 G k14 rfl hiX4 0 (by decide) mf_X4_9 rfl dX4_take_34 ?_
          refine lv_iload hx hb dX4_take_37 (lv_at hl 1 rfl) ?_
          refine g_fald C0 G h_fe1 2 rfl (vp_in_nI (by omega) (by omega)) dX4_take_39 ?_
          refine lv_topF (v := (cpoF gf 0 gf_o jj) jj) (congrArg (cpoF gf 0 gf_o jj) (nI_c (by omega))) ?_
          refine lv_topF (v := gf (jj)) (cpoF_out (by omega)) ?_
          refine lv_fload hx hb dX4_take_40 (lv_at hl 0 rfl) ?_
          refine lv_fcmp hx hb dX4_take_42 ?_
          have J30 : ∀ (y29 : Int32) (_ : y29 = (X4_take_x0 gf gf_o jj)) (H : Heap) (locs : List Loc) (ls : Array Slot), hG D (hA f sz) f1 s9 H locs → lv_has ls 6 [(5, .float (X4_get_r0 jj gf_o)), (4, .int (nI jj)), (3, .int (tkC gf gf_o jj)), (0, .ref rw), (1, .ref rw_o), (2, .int (nI cn))] → W p9 l e9 ({ frames := 1, cells := 0, slots := 0, locals := 21 } : Room) s9 m9 ([.ref rw, .ref rw_o, .int (nI cn)] : List Value).toArray b9 t9 c9 H locs 0 0 (vx_MQ b9 (hQi (fun r u => r = (tkC gf gf_o cn) ∧ u fe = some (.inl (cy 2, 20, .inr (.inr (.inl (X4_take_g2 cn gf gf_o))))) ∧ hFrL f u [fe]) D f sz) (hPx hNo D f sz) ([.ref rw, .ref rw_o, .int (nI cn)] : List Value).toArray s9 0 0 (hA f sz)) (F0 m9 51 ls [.int y29]) := by
            intro y29 ey29 H locs ls G hl
            replace ey29 := Eq.symm ey29
            subst ey29
            exact J23 (X4_take_x0 gf gf_o jj) (by rw [X4_take_x1, if_pos c21]) _ _ _ G (lv_sub hl [0, 1, 2, 3, 4, 5] rfl)
          refine lv_if_eq (tgt := 50) hx hb dX4_take_43 (by decide) (fun c28 => ?_) (fun c28 => ?_)
          · refine lv_iconst (v := 0) hx hb dX4_take_50 (by decide) ?_
            exact J30 0 (by rw [X4_take_x0, if_pos c28]) _ _ _ G (lv_sub hl [0, 1, 2, 3, 4, 5] rfl)
          · refine lv_iconst (v := 1) hx hb dX4_take_46 (by decide) ?_
            refine lv_goto (tgt := 51) hx hb dX4_take_47 (by decide) ?_
            exact J30 1 (by rw [X4_take_x0, if_neg c28]) _ _ _ G (lv_sub hl [0, 1, 2, 3, 4, 5] rfl)
  exact LOOP5 (cn + 1) 0 f _ _ _ (by omega) (by omega)  (by rw [cpoF_0]; exact h_fe) (fun a9 e9 h7 h8 => h8) G (lv_sub hl [0, 1, 2, 3, 4] rfl)
theorem b_c_X4_take (cn : Nat) (gf : Nat → UInt32) (gf_o : Nat → UInt32) : (tkC gf gf_o cn) = 0 ∨ (tkC gf gf_o cn) = 1 := (tkC_b _ _ _)
