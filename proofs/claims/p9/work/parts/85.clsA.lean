theorem h_postV {l : Launch} {y : MethodName} {cc : ByteArray} {nL : Nat} {ret : Option FieldType} {rm : Room} {D : va_G} {tys : List (ClassId × FieldType)} {f : Hf} {sz : Nat} {av : List Value} {p1 p2 : Hf → Prop} {px : String → Hf → Prop}
    (h : hMet l y cc nL ret rm D tys f sz av (hQv p1 D f sz) px) (hp : ∀ u, p1 u → p2 u) : hMet l y cc nL ret rm D tys f sz av (hQv p2 D f sz) px := by
  intro p e ha hc hk s m args below hf happ hP hK
  obtain ⟨n, o, q1, q2, q3, q4⟩ := h p e ha hc hk s m args below hf happ hP hK
  refine ⟨n, o, q1, q2, q3, ?_⟩
  rcases q4 with ⟨⟨⟨u, e1, e2, e3⟩, e4⟩, r⟩ | x
  · exact Or.inl ⟨⟨⟨u, e1, hp u e2, e3⟩, e4⟩, r⟩
  · exact Or.inr x
theorem h_postI {l : Launch} {y : MethodName} {cc : ByteArray} {nL : Nat} {ret : Option FieldType} {rm : Room} {D : va_G} {tys : List (ClassId × FieldType)} {f : Hf} {sz : Nat} {av : List Value} {p1 p2 : Int32 → Hf → Prop} {px : String → Hf → Prop}
    (h : hMet l y cc nL ret rm D tys f sz av (hQi p1 D f sz) px) (hp : ∀ r u, p1 r u → p2 r u) : hMet l y cc nL ret rm D tys f sz av (hQi p2 D f sz) px := by
  intro p e ha hc hk s m args below hf happ hP hK
  obtain ⟨n, o, q1, q2, q3, q4⟩ := h p e ha hc hk s m args below hf happ hP hK
  refine ⟨n, o, q1, q2, q3, ?_⟩
  rcases q4 with ⟨⟨⟨r, u, e1, e2, e3⟩, e4⟩, t⟩ | x
  · exact Or.inl ⟨⟨⟨r, u, e1, hp r u e2, e3⟩, e4⟩, t⟩
  · exact Or.inr x
theorem q_X6_set {l : Launch} (hfl : l.stackTraces = false) {D : va_G} {cy : Nat → ClassId} {f : Hf} {sz : Nat} {t c n : Nat} {cols rows : Int32} {g : Nat → Int32} (row column number : Int32) (h_t : f t = some (.inr (8, [.int cols, .ref c, .int rows]))) (h_c : f c = some (.inl (cy 0, n, .inl g))) (hn : n < 2147483648) : hMet l yX6_set cX6_set 6 none { frames := 0, cells := 0, slots := 0, locals := 0 } D (hTy cy) f sz [.ref t, .int row, .int column, .int number] (hQv (fun u => u c = some (.inl (cy 0, n, .inl (tset cols rows n g row column number))) ∧ hFrL f u [c]) D f sz) hNo :=
  h_postV (k_X6_set hfl row column number h_t h_c hn) (fun u hu => ⟨by rw [hu, va_up_self], fun a e h1 h2 => hup hu (fun q => h1 (by rw [q]; simp)) h2⟩)
theorem q_X6_increase {l : Launch} (hfl : l.stackTraces = false) {D : va_G} {cy : Nat → ClassId} {f : Hf} {sz : Nat} {t c n : Nat} {cols rows : Int32} {g : Nat → Int32} (row column number : Int32) (h_t : f t = some (.inr (8, [.int cols, .ref c, .int rows]))) (h_c : f c = some (.inl (cy 0, n, .inl g))) (hn : n < 2147483648) : hMet l yX6_increase cX6_increase 6 none { frames := 0, cells := 0, slots := 0, locals := 0 } D (hTy cy) f sz [.ref t, .int row, .int column, .int number] (hQv (fun u => u c = some (.inl (cy 0, n, .inl (tinc cols rows n g row column number))) ∧ hFrL f u [c]) D f sz) hNo :=
  h_postV (k_X6_increase hfl row column number h_t h_c hn) (fun u hu => ⟨by rw [hu, va_up_self], fun a e h1 h2 => hup hu (fun q => h1 (by rw [q]; simp)) h2⟩)
theorem q_X6_addRow {l : Launch} (hfl : l.stackTraces = false) {D : va_G} {cy : Nat → ClassId} {f : Hf} {sz : Nat} {t c n C r : Nat} {g : Nat → Int32} (h_t : f t = some (.inr (8, [.int (nI C), .ref c, .int (nI r)]))) (h_c : f c = some (.inl (cy 0, n, .inl g))) (hr1 : r * C + C ≤ n) (hn : n < 1048576) (hr9 : r < 65536) (hC : C < 64) : hMet l yX6_addRow cX6_addRow 3 none { frames := 0, cells := 0, slots := 0, locals := 0 } D (hTy cy) f sz [.ref t] (hQv (fun u => u t = some (.inr (8, [.int (nI C), .ref c, .int (nI (r + 1))])) ∧ u c = some (.inl (cy 0, n, .inl (zf g (r * C) (r * C + C)))) ∧ hFrL f u [t, c]) D f sz) hNo :=
  h_postV (k_X6_addRow hfl h_t h_c hr1 hn hr9 hC) (fun u hu => ⟨by rw [hu, va_up_ne _ _ (hne h_t h_c (by intro q; cases q)), va_up_self], by rw [hu, va_up_self], fun a e h1 h2 => by rw [hu, va_up_ne _ _ (fun q => h1 (by rw [q]; simp)), va_up_ne _ _ (fun q => h1 (by rw [q]; simp))]; exact h2⟩)
set_option maxRecDepth 100000 in
theorem k_X6_restart {l : Launch} (hfl : l.stackTraces = false) {D : va_G} {cy : Nat → ClassId} {f : Hf} {sz : Nat} {t c n C : Nat} (R : Nat) {rows : Int32} {g : Nat → Int32} (h_t : f t = some (.inr (8, [.int (nI C), .ref c, .int rows]))) (h_c : f c = some (.inl (cy 0, n, .inl g))) (hr1 : R * C ≤ n) (hn : n < 1048576) (hr9 : R < 65536) (hC : C < 64) : hMet l yX6_restart cX6_restart 3 none { frames := 1, cells := 0, slots := 0, locals := 22 } D (hTy cy) f sz [.ref t, .int (nI R)] (hQv (fun u => u = va_up (va_up f t (some (.inr (8, [.int (nI C), .ref c, .int (nI R)])))) c (some (.inl (cy 0, n, .inl (zf g 0 (R * C)))))) D f sz) hNo := by
  refine h_enter (by decide) hfl (Nat.le_of_ble_eq_true rfl) ?_
  intro p9 e9 s9 m9 b9 t9 c9 hsz C0 hr hnm G ls hl
  have hx := C0.1.1
  have hb := C0.1.2.1
  have hl : lv_has ls 3 [(0, .ref t), (1, .int (nI R))] := hl
  refine lv_aload_n hx hb dX6_restart_0 rfl (lv_at hl 0 rfl) ?_
  refine lv_iconst (v := 0) hx hb dX6_restart_1 (by decide) ?_
  refine g_put C0 G h_t rfl hiX6 tyX6 tyX6_ok nmX6 2 (by decide) mf_X6_7 rfl rfl rfl rfl (Nat.le_of_ble_eq_true rfl) dX6_restart_2 (fun H locs f1 hf1 G => ?_)
  have k2 : f1 t = some (.inr (8, [.int (nI C), .ref c, .int 0])) := hus hf1
  refine lv_iconst (v := 0) hx hb dX6_restart_5 (by decide) ?_
  refine lv_istore_n (lv' := [(2, .int 0), (0, .ref t), (1, .int (nI R))]) hx hb dX6_restart_6 rfl hl (by decide) rfl (fun ls hl => ?_)
  have k3 : f1 c = some (.inl (cy 0, n, .inl g)) := hup hf1 (hne h_c h_t (by intro q; cases q)) h_c
  refine W.widen (k := 0) (n := 0) (Nat.le_of_ble_eq_true rfl) (Nat.le_of_ble_eq_true rfl) ?_
  have LOOP7 : ∀ (k : Nat) (i : Nat) (f1 : Hf) (H : Heap) (locs : List Loc) (ls : Array Slot), (i ≤ R) → (R - i < k) → (f1 = va_up (va_up f t (some (.inr (8, [.int (nI C), .ref c, .int (nI i)])))) c (some (.inl (cy 0, n, .inl (zf g 0 (i * C)))))) → f1 t = some (.inr (8, [.int (nI C), .ref c, .int (nI i)])) → f1 c = some (.inl (cy 0, n, .inl (zf g 0 (i * C)))) → hG D (hA f sz) f1 s9 H locs → lv_has ls 3 [(2, .int (nI i)), (0, .ref t), (1, .int (nI R))] → W p9 l e9 ({ frames := 1, cells := 0, slots := 0, locals := 22 } : Room) s9 m9 ([.ref t, .int (nI R)] : List Value).toArray b9 t9 c9 H locs 0 0 (vx_MQ b9 (hQv (fun u => u = va_up (va_up f t (some (.inr (8, [.int (nI C), .ref c, .int (nI R)])))) c (some (.inl (cy 0, n, .inl (zf g 0 (R * C)))))) D f sz) (hPx hNo D f sz) ([.ref t, .int (nI R)] : List Value).toArray s9 0 0 (hA f sz)) (F0 m9 7 ls []) := by
    intro k
    induction k with
    | zero =>
      intro i f1 H locs ls hi2 hk he h_t1 h_c1 G hl
      exact absurd hk (by omega)
    | succ k ih =>
      intro i f1 H locs ls hi2 hk he h_t1 h_c1 G hl
      refine lv_iload_n hx hb dX6_restart_7 rfl (lv_at hl 0 rfl) ?_
      refine lv_iload_n hx hb dX6_restart_8 rfl (lv_at hl 2 rfl) ?_
      refine lv_icmp_ge (tgt := 22) hx hb dX6_restart_9 (by decide) (fun c4 => ?_) (fun c4 => ?_)
      · have n5 : R ≤ i := (nI_leI (a := R) (b := i) (by omega) (by omega)).mp c4
        exact g_vret C0 G hr dX6_restart_22 (Nat.le_of_ble_eq_true rfl) (Nat.le_of_ble_eq_true rfl) (by rw [he, show i = R by omega])
      · have n6 : ¬ R ≤ i := fun q => c4 ((nI_leI (a := R) (b := i) (by omega) (by omega)).mpr q)
        refine lv_aload_n hx hb dX6_restart_12 rfl (lv_at hl 1 rfl) ?_
        refine g_cV C0 G (g_runV C0 G (rest := []) (k_X6_addRow hfl (C := C) (r := i) h_t1 h_c1 (by have h5 := Nat.mul_le_mul_right C (show i + 1 ≤ R by omega); rw [Nat.add_mul, Nat.one_mul] at h5; omega) hn (by omega) hC) h_t1 rfl hY_X6_addRow mm_X6_26 mi_X6_addRow ml_X6_addRow ⟨(Nat.le_of_ble_eq_true rfl), (Nat.le_of_ble_eq_true rfl)⟩ rfl hl.1 rfl (Nat.le_of_ble_eq_true rfl) dX6_restart_13 ⟨(Nat.le_of_ble_eq_true rfl), (Nat.le_of_ble_eq_true rfl)⟩) (kx_no rfl) (fun u8 H locs hp7 G => ?_)
        obtain ⟨f9, hf9⟩ : ∃ z, z = va_up f1 t (some (.inr (8, [.int (nI C), .ref c, .int (nI (i + 1))]))) := ⟨_, rfl⟩
        have e10 : u8 = va_up (va_up f1 t (some (.inr (8, [.int (nI C), .ref c, .int (nI (i + 1))])))) c (some (.inl (cy 0, n, .inl (zf (zf g 0 (i * C)) (i * C) (i * C + C))))) := hp7
        rw [← hf9] at e10
        have k11 : f9 t = some (.inr (8, [.int (nI C), .ref c, .int (nI (i + 1))])) := hus hf9
        have k12 : f9 c = some (.inl (cy 0, n, .inl (zf g 0 (i * C)))) := hup hf9 (hne h_c1 h_t1 (by intro q; cases q)) h_c1
        have k13 : u8 c = some (.inl (cy 0, n, .inl (zf (zf g 0 (i * C)) (i * C) (i * C + C)))) := hus e10
        refine lv_iinc (v := nI (i + 1)) (lv' := [(2, .int (nI (i + 1))), (0, .ref t), (1, .int (nI R))]) hx hb dX6_restart_16 hl (k := 0) rfl (by exact (nI_add _ _)) (by decide) rfl (fun ls hl => ?_)
        refine lv_goto (tgt := 7) hx hb dX6_restart_19 (by decide) ?_
        have k15 : u8 t = some (.inr (8, [.int (nI C), .ref c, .int (nI (i + 1))])) := hup e10 (hne k11 k12 (by intro q; cases q)) k11
        exact ih (i + 1) u8 _ _ _ (by omega) (by omega) (by rw [e10, hf9, he, hup4 (hne h_t h_c (by intro q; cases q)), zf_j _ (Nat.zero_le _) (by omega), Nat.add_mul, Nat.one_mul]) k15 (by have h5 := k13; rw [zf_j _ (Nat.zero_le _) (by omega)] at h5; rw [Nat.add_mul, Nat.one_mul]; exact h5) G (lv_sub hl [0, 1, 2] rfl)
  exact LOOP7 (R + 1) 0 f1 _ _ _ (by omega) (by omega) (by rw [hf1, Nat.zero_mul, zf_0, hupid (f := va_up f t _) (by rw [va_up_ne _ _ (Ne.symm (hne h_t h_c (by intro q; cases q)))]; exact h_c)]; rfl) k2 (by rw [Nat.zero_mul, zf_0]; exact k3) G (lv_sub hl [0, 1, 2] rfl)
theorem q_X6_restart {l : Launch} (hfl : l.stackTraces = false) {D : va_G} {cy : Nat → ClassId} {f : Hf} {sz : Nat} {t c n C : Nat} {R : Nat} {rows : Int32} {g : Nat → Int32} (h_t : f t = some (.inr (8, [.int (nI C), .ref c, .int rows]))) (h_c : f c = some (.inl (cy 0, n, .inl g))) (hr1 : R * C ≤ n) (hn : n < 1048576) (hr9 : R < 65536) (hC : C < 64) : hMet l yX6_restart cX6_restart 3 none { frames := 1, cells := 0, slots := 0, locals := 22 } D (hTy cy) f sz [.ref t, .int (nI R)] (hQv (fun u => u t = some (.inr (8, [.int (nI C), .ref c, .int (nI R)])) ∧ u c = some (.inl (cy 0, n, .inl (zf g 0 (R * C)))) ∧ hFrL f u [t, c]) D f sz) hNo :=
  h_postV (k_X6_restart hfl R h_t h_c hr1 hn hr9 hC) (fun u hu => ⟨by rw [hu, va_up_ne _ _ (hne h_t h_c (by intro q; cases q)), va_up_self], by rw [hu, va_up_self], fun a e h1 h2 => by rw [hu, va_up_ne _ _ (fun q => h1 (by rw [q]; simp)), va_up_ne _ _ (fun q => h1 (by rw [q]; simp))]; exact h2⟩)
