section R12
variable {p : Program} {l : Launch} {e : Env} {R : Room} {s : State} {m : MethodId} {args : Array Value} {below : List Frame} {meth : Method} {c : Code} {H : Heap} {locs : List Loc} {cells slots : Nat}
variable {cc : ByteArray} {nL pc : Nat} {ls : Array Slot} {rest st0 : List Value} {D : va_G} {A : Nat → Prop} {tys : List (ClassId × FieldType)} {f : Hf} {own : String}
variable {y : MethodName} {bytes : ByteArray} {maxL n idx : Nat} {ret : Option FieldType} {rm : Room} {As : List Value} {Qc : Array Value → State → Outcome → State → Prop} {px : String → Hf → Prop}
theorem g_runS12 (C0 : hC p l s m meth c cc nL args own D tys A) (G : hG D A f s H locs) (hM : hMet l y bytes maxL ret rm D tys f H.size As Qc px) (hy : hY y bytes maxL ret n) (hl : Cond.methodLink own idx y ∈ lw_tbl) (hi : Cond.static y ∈ lw_tbl) (hR : rm.frames + 1 ≤ R.frames ∧ 12 + (maxL + 11) + rm.locals ≤ R.locals) (hn : As.length = n) (hsz : ls.size = nL) (hst : st0 = As.reverse ++ rest) (hW9 : (rest.map fun v => v.category).sum ≤ 12) (hdg : decode cc pc = .ok (.invokestatic idx, 3)) (hf : cells + rm.cells ≤ R.cells ∧ slots + rm.slots ≤ R.slots) :
    vx_Run p l e R s m args below meth c H locs cells slots rm.cells rm.slots (F0 m pc ls st0) rest (Qc As.toArray) (hPx px D f H.size) (hA f H.size) := by
  have cw := hB_of C0 hy hl (show rm.frames + 1 ≤ R.frames ∧ 8 + (maxL + 11) + rm.locals ≤ R.locals from ⟨hR.1, by omega⟩)
  obtain ⟨hrc, hrs, hfr, hlo, hws, hcw, hcode, hini, hyn, hlen, hl2⟩ := cw
  have hK : vx_Back l R p e below s args y 3 12 (PreOf R rm.cells rm.slots (va_Pc As (hW D tys f H.size))) (PostOf Qc rm.cells rm.slots (hA f H.size)) (vx_Post (hPx px D f H.size) rm.cells rm.slots (hA f H.size)) :=
    vx_back (bytes := bytes) (maxL := maxL) (ret := ret) hM hW_blind hrc hrs hfr hR.2 hws hcw (fun a' U hW => word_at hW (Or.inl (by first | rfl | simp [Cond.onTables, Cond.keeps, Cond.steady])) hini)
  have hstt := C0.2.2.2.1.1 _ hi rfl args
  have hG0 : ∀ U : State, U.heap = H → s.WarmedH U.vm → va_Pc As (hW D tys f H.size) As.toArray U := fun U hU hW => ⟨rfl, hW_of C0 G U hU hW⟩
  obtain ⟨hx, hb, hml, ho, -⟩ := C0.1
  intro T hT X
  rcases vx_callS X hx (bytes := bytes) (maxL := maxL) (ret := ret) ho hl2 hstt hini hcode hyn hK (g := F0 m pc ls st0) rfl (hsz.trans hml.symm) (argsL := As) (rest := rest) (fun sig h => hn.trans (hlen sig h)) hst (by show 2 * 0 + _ ≤ 12; omega) (by rw [hb]; exact hdg)
    (fun vm₁ hW₁ => ⟨hf.1, hf.2, hG0 (T.setVm vm₁) hT hW₁⟩) with ⟨v, vm₁, ⟨U', l2, c2, s2⟩, hW₁, X', ⟨g', mk, t, L, e1, e2, hq, h1, hL, h2, h3⟩, st⟩ | ⟨q, vm₁, ⟨U', l2, c2, s2⟩, hW₁, X', ⟨g', mk, t, L, E, ce, e1, e2, hq, hce, hcv, hcl, h1, hL, h2, h3⟩, st⟩
  · dsimp only [Pt.U, Pt.locs, Pt.cells, Pt.slots] at X' e1 e2 h1 h2 h3 st
    subst h1; subst h2; subst h3
    exact Or.inl ⟨v, (T.setVm vm₁).calling g' mk As.toArray, t, U', L, hT, X', hL, e1, e2, hq, st⟩
  · dsimp only [Pt.U, Pt.locs, Pt.cells, Pt.slots] at X' e1 e2 h1 h2 h3 st hcl
    subst h1; subst h2; subst h3
    exact Or.inr ⟨q, (T.setVm vm₁).calling g' mk As.toArray, t, U', L, E, ce, hT, X', hL, e1, e2, hq, hce, hcv, vx_cls hW₁ hcl, st⟩
end R12
theorem pl_part {g : Nat → Int32} {x k w : Int32} {i : Nat} (h4 : g 4 = nI i) (hi : i < 4) (h : ¬ X9_isInnings_x1 g x = 0) (hs : ∀ ii, ii ≤ i → ∃ lo n, g (25 + 11 * ii + 9) = nI lo ∧ X9_shares_r1 g (nI ii) i = nI n ∧ lo + n ≤ 700) (hk : ¬ X9_isIn_x1 k 0 (X9_shares_r1 g x i - 1) = 0) (hw : ¬ X9_isIn_x1 w 0 7 = 0) : vp_in (841 + 8 * (g (X9_at_r0 x 9).toNatClampNeg + k) + w) 6441 := by
  obtain ⟨ii, hii, rfl⟩ := isI_k h4 hi h
  obtain ⟨lo, n, e1, e2, e3⟩ := hs ii hii
  rw [e2] at hk
  have hn : 1 ≤ n := by
    rcases Nat.eq_zero_or_pos n with q | q
    · subst q
      exfalso
      unfold X9_isIn_x1 at hk
      split at hk
      · exact hk rfl
      · rename_i h1
        unfold X9_isIn_x0 at hk
        split at hk
        · exact hk rfl
        · rename_i h2
          have e : (nI 0 - 1).toInt = -1 := by decide
          rw [Int32.lt_iff_toInt_lt] at h1 h2
          rw [e] at h2
          have e0 : (0 : Int32).toInt = 0 := by decide
          omega
    · omega
  rw [show (1 : Int32) = nI 1 from rfl, nI_sb hn] at hk
  obtain ⟨j, hj, rfl⟩ := isIn_k (n - 1) hk (by omega)
  obtain ⟨u, hu, rfl⟩ := isIn_k 7 hw (by omega)
  rw [show (9 : Int32) = nI 9 from rfl, at_n, nI_c (by omega), e1, show (841 : Int32) = nI 841 from rfl, show (8 : Int32) = nI 8 from rfl, nI_add, pk_mul, nI_add, nI_add]
  exact vp_in_nI (by omega) (by omega)
theorem pl_fall {g : Nat → Int32} {x k w : Int32} {i : Nat} (h4 : g 4 = nI i) (hi : i < 4) (h : ¬ X9_isInnings_x1 g x = 0) (hs : ∀ ii, ii ≤ i → ∃ n, g (25 + 11 * ii + 1) = nI n ∧ n ≤ 11) (hk : ¬ X9_isIn_x1 k 0 (g (X9_at_r0 x 1).toNatClampNeg - 1) = 0) (hw : ¬ X9_isIn_x1 w 0 2 = 0) : vp_in (641 + 30 * x + 3 * k + w) 6441 := by
  obtain ⟨ii, hii, rfl⟩ := isI_k h4 hi h
  obtain ⟨n, e1, e3⟩ := hs ii hii
  rw [show (1 : Int32) = nI 1 from rfl, at_n, nI_c (by omega), e1] at hk
  have hn : 1 ≤ n := by
    rcases Nat.eq_zero_or_pos n with q | q
    · subst q
      exfalso
      unfold X9_isIn_x1 at hk
      split at hk
      · exact hk rfl
      · rename_i h1
        unfold X9_isIn_x0 at hk
        split at hk
        · exact hk rfl
        · rename_i h2
          have e : (nI 0 - nI 1).toInt = -1 := by decide
          rw [Int32.lt_iff_toInt_lt] at h1 h2
          rw [e] at h2
          have e0 : (0 : Int32).toInt = 0 := by decide
          omega
    · omega
  rw [nI_sb hn] at hk
  obtain ⟨j, hj, rfl⟩ := isIn_k (n - 1) hk (by omega)
  obtain ⟨u, hu, rfl⟩ := isIn_k 2 hw (by omega)
  rw [show (641 : Int32) = nI 641 from rfl, show (30 : Int32) = nI 30 from rfl, show (3 : Int32) = nI 3 from rfl, pk_mul, pk_mul, nI_add, nI_add, nI_add]
  exact vp_in_nI (by omega) (by omega)
def X9_partnership_r0 (g : Nat → Int32) (i9 : Int32) (k : Int32) (what : Int32) (i : Nat) : Int32 := if (X9_isInnings_x1 g i9) = 0 then 0 else (X9_listed_x2 g k (X9_shares_r1 g i9 i) what 7 (841 + (8 * ((g ((X9_at_r0 i9 9)).toNatClampNeg) + k))))
def X9_partnership_x1 (g : Nat → Int32) (i9 : Int32) (k : Int32) (what : Int32) (i : Nat) : Int32 := if (X9_isInnings_x1 g i9) = 0 then 1 else (nI (X9_listed_n1 k (X9_shares_r1 g i9 i) what 7))
set_option maxRecDepth 100000 in
theorem k_X9_partnership {l : Launch} (hfl : l.stackTraces = false) {D : va_G} {cy : Nat → ClassId} {f : Hf} {sz : Nat} {m : Nat} {v : Nat} {im : Nat} {kp : Nat} {pa : Nat} {de : Nat} {ide : Nat} {tx : Nat} {pt : Nat} {so : Nat} {mo : Nat} {wh : Nat} {pf : Nat} {c_th : Int32} {c_re : Int32} {c_un : Int32} {c_hi : Int32} {c_tn : Int32} {c_fa : Int32} {c_rf : Int32} {c_ps : Int32} {c_pl : Int32} {c_to : Int32} {g : Nat → Int32} (i9 : Int32) (k : Int32) (what : Int32) {i : Nat} (h_m : f m = some (.inr (11, [.int c_th, .int c_re, .ref v, .ref im, .ref kp, .ref pa, .ref de, .ref ide, .int c_un, .int c_hi, .ref tx, .int c_tn, .int c_fa, .int c_rf, .ref pt, .int c_ps, .int c_pl, .int c_to, .ref so, .ref mo, .ref wh, .ref pf]))) (h_v : f v = some (.inl (cy 0, 6441, .inl g))) (h4 : g 4 = nI i) (hi : i < 4) (hshr : ∀ ii, ii ≤ i → ∃ lo n, g (25 + 11 * ii + 9) = nI lo ∧ X9_shares_r1 g (nI ii) i = nI n ∧ lo + n ≤ 700) : hMet l yX9_partnership cX9_partnership 4 (some .int) { frames := 2, cells := 0, slots := 0, locals := 48 } D (hTy cy) f sz [.ref m, .int i9, .int k, .int what] (hQi (fun r u => r = (X9_partnership_r0 g i9 k what i) ∧ u m = some (.inr (11, [.int (X9_partnership_x1 g i9 k what i), .int c_re, .ref v, .ref im, .ref kp, .ref pa, .ref de, .ref ide, .int c_un, .int c_hi, .ref tx, .int c_tn, .int c_fa, .int c_rf, .ref pt, .int c_ps, .int c_pl, .int c_to, .ref so, .ref mo, .ref wh, .ref pf])) ∧ hFrL f u [m]) D f sz) hNo := by
  refine h_enter (by decide) hfl (Nat.le_of_ble_eq_true rfl) ?_
  intro p9 e9 s9 m9 b9 t9 c9 hsz C0 hr hnm G ls hl
  have hx := C0.1.1
  have hb := C0.1.2.1
  have hl : lv_has ls 4 [(0, .ref m), (1, .int i9), (2, .int k), (3, .int what)] := hl
  refine lv_aload_n hx hb dX9_partnership_0 rfl (lv_at hl 0 rfl) ?_
  refine lv_iload_n hx hb dX9_partnership_1 rfl (lv_at hl 1 rfl) ?_
  refine g_cI C0 G (g_runV C0 G (rest := []) (k_X9_isInnings hfl i9 h_m h_v) h_m rfl hY_X9_isInnings mm_X9_227 mi_X9_isInnings ml_X9_isInnings ⟨(Nat.le_of_ble_eq_true rfl), (Nat.le_of_ble_eq_true rfl)⟩ rfl hl.1 rfl (Nat.le_of_ble_eq_true rfl) dX9_partnership_2 ⟨(Nat.le_of_ble_eq_true rfl), (Nat.le_of_ble_eq_true rfl)⟩) (kx_no rfl) (fun r13 u12 H locs hp11 G => ?_)
  obtain ⟨zr, eu12⟩ := hp11
  replace zr := Eq.symm zr
  subst zr
  rw [eu12] at G
  refine lv_if_ne (tgt := 14) hx hb dX9_partnership_5 (by decide) (fun c14 => ?_) (fun c14 => ?_)
  · refine lv_aload_n hx hb dX9_partnership_14 rfl (lv_at hl 0 rfl) ?_
    refine lv_iload_n hx hb dX9_partnership_15 rfl (lv_at hl 1 rfl) ?_
    refine lv_iload_n hx hb dX9_partnership_16 rfl (lv_at hl 2 rfl) ?_
    refine lv_aload_n hx hb dX9_partnership_17 rfl (lv_at hl 0 rfl) ?_
    refine lv_iload_n hx hb dX9_partnership_18 rfl (lv_at hl 1 rfl) ?_
    refine g_cI C0 G (g_runV C0 G (rest := [.int k, .int i9, .ref m]) (k_X9_shares hfl i9 h_m h_v h4 hi c14) h_m rfl hY_X9_shares mm_X9_234 mi_X9_shares ml_X9_shares ⟨(Nat.le_of_ble_eq_true rfl), (Nat.le_of_ble_eq_true rfl)⟩ rfl hl.1 rfl (Nat.le_of_ble_eq_true rfl) dX9_partnership_19 ⟨(Nat.le_of_ble_eq_true rfl), (Nat.le_of_ble_eq_true rfl)⟩) (kx_no rfl) (fun r17 u16 H locs hp15 G => ?_)
    obtain ⟨zr, eu16⟩ := hp15
    replace zr := Eq.symm zr
    subst zr
    rw [eu16] at G
    refine lv_iload_n hx hb dX9_partnership_22 rfl (lv_at hl 3 rfl) ?_
    refine lv_bipush (v := 7) hx hb dX9_partnership_23 (by decide) ?_
    refine lv_sipush (v := 841) hx hb dX9_partnership_25 (by decide) ?_
    refine lv_bipush (v := 8) hx hb dX9_partnership_28 (by decide) ?_
    refine lv_aload_n hx hb dX9_partnership_30 rfl (lv_at hl 0 rfl) ?_
    refine g_get C0 G h_m rfl hiX9 2 (by decide) mf_X9_9 rfl dX9_partnership_31 ?_
    refine lv_iload_n hx hb dX9_partnership_34 rfl (lv_at hl 1 rfl) ?_
    refine lv_bipush (v := 9) hx hb dX9_partnership_35 (by decide) ?_
    refine g_cI C0 G (g_runS12 C0 G (rest := [.ref v, .int 8, .int 841, .int 7, .int what, .int (X9_shares_r1 g i9 i), .int k, .int i9, .ref m]) (k_X9_at hfl i9 9 ) hY_X9_at mm_X9_62 ms_X9_at ⟨(Nat.le_of_ble_eq_true rfl), (Nat.le_of_ble_eq_true rfl)⟩ rfl hl.1 rfl (Nat.le_of_ble_eq_true rfl) dX9_partnership_37 ⟨(Nat.le_of_ble_eq_true rfl), (Nat.le_of_ble_eq_true rfl)⟩) (kx_no rfl) (fun r20 u19 H locs hp18 G => ?_)
    obtain ⟨zr, eu19⟩ := hp18
    replace zr := Eq.symm zr
    subst zr
    rw [eu19] at G
    refine g_iald C0 G h_v 0 rfl (pl_at1 9 (by omega) h4 hi c14) dX9_partnership_40 ?_
    refine lv_iload_n hx hb dX9_partnership_41 rfl (lv_at hl 2 rfl) ?_
    refine lv_iadd hx hb dX9_partnership_42 ?_
    refine lv_imul hx hb dX9_partnership_43 ?_
    refine lv_iadd hx hb dX9_partnership_44 ?_
    refine g_cI C0 G (g_runV C0 G (rest := []) (k_X9_listed hfl i9 k (X9_shares_r1 g i9 i) what 7 (841 + (8 * ((g ((X9_at_r0 i9 9)).toNatClampNeg) + k))) h_m h_v (fun q0 q1 => pl_part h4 hi c14 hshr q0 q1)) h_m rfl hY_X9_listed mm_X9_237 mi_X9_listed ml_X9_listed ⟨(Nat.le_of_ble_eq_true rfl), (Nat.le_of_ble_eq_true rfl)⟩ rfl hl.1 rfl (Nat.le_of_ble_eq_true rfl) dX9_partnership_45 ⟨(Nat.le_of_ble_eq_true rfl), (Nat.le_of_ble_eq_true rfl)⟩) (kx_no rfl) (fun r23 u22 H locs hp21 G => ?_)
    obtain ⟨zr, k24, fr25⟩ := hp21
    replace zr := Eq.symm zr
    subst zr
    exact g_iret C0 G hr dX9_partnership_48 (Nat.le_of_ble_eq_true rfl) (Nat.le_of_ble_eq_true rfl) (by exact ⟨(by rw [X9_partnership_r0, if_neg c14]), (by rw [(by rw [X9_partnership_x1, if_neg c14] : (X9_partnership_x1 g i9 k what i) = (nI (X9_listed_n1 k (X9_shares_r1 g i9 i) what 7)))]; exact k24), (fun a9 e9 h7 h8 => fr25 _ _ (fun q => h7 (by simp only [List.mem_cons, List.not_mem_nil, or_false] at q ⊢; first | exact q | (rcases q with q <;> simp [q]) | omega)) (h8))⟩)
  · refine lv_aload_n hx hb dX9_partnership_8 rfl (lv_at hl 0 rfl) ?_
    refine lv_iconst (v := 1) hx hb dX9_partnership_9 (by decide) ?_
    refine g_cI C0 G (g_runV C0 G (rest := []) (k_X9_no hfl 1 h_m) h_m rfl hY_X9_no mm_X9_169 mi_X9_no ml_X9_no ⟨(Nat.le_of_ble_eq_true rfl), (Nat.le_of_ble_eq_true rfl)⟩ rfl hl.1 rfl (Nat.le_of_ble_eq_true rfl) dX9_partnership_10 ⟨(Nat.le_of_ble_eq_true rfl), (Nat.le_of_ble_eq_true rfl)⟩) (kx_no rfl) (fun r28 u27 H locs hp26 G => ?_)
    obtain ⟨zr, k29, fr30⟩ := hp26
    replace zr := Eq.symm zr
    subst zr
    exact g_iret C0 G hr dX9_partnership_13 (Nat.le_of_ble_eq_true rfl) (Nat.le_of_ble_eq_true rfl) (by exact ⟨(by rw [X9_partnership_r0, if_pos c14]), (by rw [(by rw [X9_partnership_x1, if_pos c14] : (X9_partnership_x1 g i9 k what i) = 1)]; exact k29), (fun a9 e9 h7 h8 => fr30 _ _ (fun q => h7 (by simp only [List.mem_cons, List.not_mem_nil, or_false] at q ⊢; first | exact q | (rcases q with q <;> simp [q]) | omega)) (h8))⟩)
def X9_fall_r0 (g : Nat → Int32) (i9 : Int32) (k : Int32) (what : Int32) : Int32 := if (X9_isInnings_x1 g i9) = 0 then 0 else (X9_listed_x2 g k (g ((X9_at_r0 i9 1)).toNatClampNeg) what 2 ((641 + (30 * i9)) + (3 * k)))
def X9_fall_x1 (g : Nat → Int32) (i9 : Int32) (k : Int32) (what : Int32) : Int32 := if (X9_isInnings_x1 g i9) = 0 then 1 else (nI (X9_listed_n1 k (g ((X9_at_r0 i9 1)).toNatClampNeg) what 2))
set_option maxRecDepth 100000 in
theorem k_X9_fall {l : Launch} (hfl : l.stackTraces = false) {D : va_G} {cy : Nat → ClassId} {f : Hf} {sz : Nat} {m : Nat} {v : Nat} {im : Nat} {kp : Nat} {pa : Nat} {de : Nat} {ide : Nat} {tx : Nat} {pt : Nat} {so : Nat} {mo : Nat} {wh : Nat} {pf : Nat} {c_th : Int32} {c_re : Int32} {c_un : Int32} {c_hi : Int32} {c_tn : Int32} {c_fa : Int32} {c_rf : Int32} {c_ps : Int32} {c_pl : Int32} {c_to : Int32} {g : Nat → Int32} (i9 : Int32) (k : Int32) (what : Int32) {i : Nat} (h_m : f m = some (.inr (11, [.int c_th, .int c_re, .ref v, .ref im, .ref kp, .ref pa, .ref de, .ref ide, .int c_un, .int c_hi, .ref tx, .int c_tn, .int c_fa, .int c_rf, .ref pt, .int c_ps, .int c_pl, .int c_to, .ref so, .ref mo, .ref wh, .ref pf]))) (h_v : f v = some (.inl (cy 0, 6441, .inl g))) (h4 : g 4 = nI i) (hi : i < 4) (hwks : ∀ ii, ii ≤ i → ∃ n, g (25 + 11 * ii + 1) = nI n ∧ n ≤ 11) : hMet l yX9_fall cX9_fall 4 (some .int) { frames := 2, cells := 0, slots := 0, locals := 48 } D (hTy cy) f sz [.ref m, .int i9, .int k, .int what] (hQi (fun r u => r = (X9_fall_r0 g i9 k what) ∧ u m = some (.inr (11, [.int (X9_fall_x1 g i9 k what), .int c_re, .ref v, .ref im, .ref kp, .ref pa, .ref de, .ref ide, .int c_un, .int c_hi, .ref tx, .int c_tn, .int c_fa, .int c_rf, .ref pt, .int c_ps, .int c_pl, .int c_to, .ref so, .ref mo, .ref wh, .ref pf])) ∧ hFrL f u [m]) D f sz) hNo := by
  refine h_enter (by decide) hfl (Nat.le_of_ble_eq_true rfl) ?_
  intro p9 e9 s9 m9 b9 t9 c9 hsz C0 hr hnm G ls hl
  have hx := C0.1.1
  have hb := C0.1.2.1
  have hl : lv_has ls 4 [(0, .ref m), (1, .int i9), (2, .int k), (3, .int what)] := hl
  refine lv_aload_n hx hb dX9_fall_0 rfl (lv_at hl 0 rfl) ?_
  refine lv_iload_n hx hb dX9_fall_1 rfl (lv_at hl 1 rfl) ?_
  refine g_cI C0 G (g_runV C0 G (rest := []) (k_X9_isInnings hfl i9 h_m h_v) h_m rfl hY_X9_isInnings mm_X9_227 mi_X9_isInnings ml_X9_isInnings ⟨(Nat.le_of_ble_eq_true rfl), (Nat.le_of_ble_eq_true rfl)⟩ rfl hl.1 rfl (Nat.le_of_ble_eq_true rfl) dX9_fall_2 ⟨(Nat.le_of_ble_eq_true rfl), (Nat.le_of_ble_eq_true rfl)⟩) (kx_no rfl) (fun r13 u12 H locs hp11 G => ?_)
  obtain ⟨zr, eu12⟩ := hp11
  replace zr := Eq.symm zr
  subst zr
  rw [eu12] at G
  refine lv_if_ne (tgt := 14) hx hb dX9_fall_5 (by decide) (fun c14 => ?_) (fun c14 => ?_)
  · refine lv_aload_n hx hb dX9_fall_14 rfl (lv_at hl 0 rfl) ?_
    refine lv_iload_n hx hb dX9_fall_15 rfl (lv_at hl 1 rfl) ?_
    refine lv_iload_n hx hb dX9_fall_16 rfl (lv_at hl 2 rfl) ?_
    refine lv_aload_n hx hb dX9_fall_17 rfl (lv_at hl 0 rfl) ?_
    refine g_get C0 G h_m rfl hiX9 2 (by decide) mf_X9_9 rfl dX9_fall_18 ?_
    refine lv_iload_n hx hb dX9_fall_21 rfl (lv_at hl 1 rfl) ?_
    refine lv_iconst (v := 1) hx hb dX9_fall_22 (by decide) ?_
    refine g_cI C0 G (g_runS C0 G (rest := [.ref v, .int k, .int i9, .ref m]) (k_X9_at hfl i9 1 ) hY_X9_at mm_X9_62 ms_X9_at ⟨(Nat.le_of_ble_eq_true rfl), (Nat.le_of_ble_eq_true rfl)⟩ rfl hl.1 rfl (Nat.le_of_ble_eq_true rfl) dX9_fall_23 ⟨(Nat.le_of_ble_eq_true rfl), (Nat.le_of_ble_eq_true rfl)⟩) (kx_no rfl) (fun r17 u16 H locs hp15 G => ?_)
    obtain ⟨zr, eu16⟩ := hp15
    replace zr := Eq.symm zr
    subst zr
    rw [eu16] at G
    refine g_iald C0 G h_v 0 rfl (pl_at1 1 (by omega) h4 hi c14) dX9_fall_26 ?_
    refine lv_iload_n hx hb dX9_fall_27 rfl (lv_at hl 3 rfl) ?_
    refine lv_iconst (v := 2) hx hb dX9_fall_28 (by decide) ?_
    refine lv_sipush (v := 641) hx hb dX9_fall_29 (by decide) ?_
    refine lv_bipush (v := 30) hx hb dX9_fall_32 (by decide) ?_
    refine lv_iload_n hx hb dX9_fall_34 rfl (lv_at hl 1 rfl) ?_
    refine lv_imul hx hb dX9_fall_35 ?_
    refine lv_iadd hx hb dX9_fall_36 ?_
    refine lv_iconst (v := 3) hx hb dX9_fall_37 (by decide) ?_
    refine lv_iload_n hx hb dX9_fall_38 rfl (lv_at hl 2 rfl) ?_
    refine lv_imul hx hb dX9_fall_39 ?_
    refine lv_iadd hx hb dX9_fall_40 ?_
    refine g_cI C0 G (g_runV C0 G (rest := []) (k_X9_listed hfl i9 k (g ((X9_at_r0 i9 1)).toNatClampNeg) what 2 ((641 + (30 * i9)) + (3 * k)) h_m h_v (fun q0 q1 => pl_fall h4 hi c14 hwks q0 q1)) h_m rfl hY_X9_listed mm_X9_237 mi_X9_listed ml_X9_listed ⟨(Nat.le_of_ble_eq_true rfl), (Nat.le_of_ble_eq_true rfl)⟩ rfl hl.1 rfl (Nat.le_of_ble_eq_true rfl) dX9_fall_41 ⟨(Nat.le_of_ble_eq_true rfl), (Nat.le_of_ble_eq_true rfl)⟩) (kx_no rfl) (fun r20 u19 H locs hp18 G => ?_)
    obtain ⟨zr, k21, fr22⟩ := hp18
    replace zr := Eq.symm zr
    subst zr
    exact g_iret C0 G hr dX9_fall_44 (Nat.le_of_ble_eq_true rfl) (Nat.le_of_ble_eq_true rfl) (by exact ⟨(by rw [X9_fall_r0, if_neg c14]), (by rw [(by rw [X9_fall_x1, if_neg c14] : (X9_fall_x1 g i9 k what) = (nI (X9_listed_n1 k (g ((X9_at_r0 i9 1)).toNatClampNeg) what 2)))]; exact k21), (fun a9 e9 h7 h8 => fr22 _ _ (fun q => h7 (by simp only [List.mem_cons, List.not_mem_nil, or_false] at q ⊢; first | exact q | (rcases q with q <;> simp [q]) | omega)) (h8))⟩)
  · refine lv_aload_n hx hb dX9_fall_8 rfl (lv_at hl 0 rfl) ?_
    refine lv_iconst (v := 1) hx hb dX9_fall_9 (by decide) ?_
    refine g_cI C0 G (g_runV C0 G (rest := []) (k_X9_no hfl 1 h_m) h_m rfl hY_X9_no mm_X9_169 mi_X9_no ml_X9_no ⟨(Nat.le_of_ble_eq_true rfl), (Nat.le_of_ble_eq_true rfl)⟩ rfl hl.1 rfl (Nat.le_of_ble_eq_true rfl) dX9_fall_10 ⟨(Nat.le_of_ble_eq_true rfl), (Nat.le_of_ble_eq_true rfl)⟩) (kx_no rfl) (fun r25 u24 H locs hp23 G => ?_)
    obtain ⟨zr, k26, fr27⟩ := hp23
    replace zr := Eq.symm zr
    subst zr
    exact g_iret C0 G hr dX9_fall_13 (Nat.le_of_ble_eq_true rfl) (Nat.le_of_ble_eq_true rfl) (by exact ⟨(by rw [X9_fall_r0, if_pos c14]), (by rw [(by rw [X9_fall_x1, if_pos c14] : (X9_fall_x1 g i9 k what) = 1)]; exact k26), (fun a9 e9 h7 h8 => fr27 _ _ (fun q => h7 (by simp only [List.mem_cons, List.not_mem_nil, or_false] at q ⊢; first | exact q | (rcases q with q <;> simp [q]) | omega)) (h8))⟩)
