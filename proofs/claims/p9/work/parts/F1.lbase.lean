theorem hinZ1 : Cond.laysStatic "java/lang/Throwable" "SUPPRESSED_SENTINEL" "Ljava/util/List;" ∈ lw_tbl := hin2 (List.mem_of_getElem? (i := 197) rfl)
theorem hinZ0 : Cond.laysStatic "java/lang/Throwable" "UNASSIGNED_STACK" "[Ljava/lang/StackTraceElement;" ∈ lw_tbl := hin2 (List.mem_of_getElem? (i := 195) rfl)
theorem hStr_in : ∀ q ∈ hStr, Cond.stringRef RX8 q.1 q.2 ∈ lw_tbl := List.forall_mem_cons.mpr ⟨hin4 (List.mem_of_getElem? (i := 67) rfl), List.forall_mem_cons.mpr ⟨hin4 (List.mem_of_getElem? (i := 78) rfl), List.forall_mem_cons.mpr ⟨hin4 (List.mem_of_getElem? (i := 113) rfl), List.forall_mem_cons.mpr ⟨hin4 (List.mem_of_getElem? (i := 30) rfl), List.forall_mem_cons.mpr ⟨hin4 (List.mem_of_getElem? (i := 122) rfl), List.forall_mem_cons.mpr ⟨hin4 (List.mem_of_getElem? (i := 136) rfl), List.forall_mem_cons.mpr ⟨hin4 (List.mem_of_getElem? (i := 193) rfl), List.forall_mem_cons.mpr ⟨hin4 (List.mem_of_getElem? (i := 206) rfl), List.forall_mem_cons.mpr ⟨hin4 (List.mem_of_getElem? (i := 224) rfl), List.forall_mem_cons.mpr ⟨hin4 (List.mem_of_getElem? (i := 238) rfl), List.forall_mem_cons.mpr ⟨hin5 (List.mem_of_getElem? (i := 6) rfl), List.forall_mem_cons.mpr ⟨hin5 (List.mem_of_getElem? (i := 70) rfl), List.forall_mem_cons.mpr ⟨hin5 (List.mem_of_getElem? (i := 90) rfl), List.forall_mem_cons.mpr ⟨hin5 (List.mem_of_getElem? (i := 116) rfl), List.forall_mem_cons.mpr ⟨hin5 (List.mem_of_getElem? (i := 125) rfl), List.forall_mem_cons.mpr ⟨hin5 (List.mem_of_getElem? (i := 158) rfl), List.forall_mem_cons.mpr ⟨hin5 (List.mem_of_getElem? (i := 159) rfl), List.forall_mem_cons.mpr ⟨hin5 (List.mem_of_getElem? (i := 160) rfl), List.forall_mem_cons.mpr ⟨hin5 (List.mem_of_getElem? (i := 180) rfl), List.forall_mem_cons.mpr ⟨hin5 (List.mem_of_getElem? (i := 189) rfl), List.forall_mem_cons.mpr ⟨hin6 (List.mem_of_getElem? (i := 3) rfl), List.forall_mem_cons.mpr ⟨hin5 (List.mem_of_getElem? (i := 12) rfl), List.forall_mem_cons.mpr ⟨hin5 (List.mem_of_getElem? (i := 33) rfl), List.forall_mem_cons.mpr ⟨hin5 (List.mem_of_getElem? (i := 47) rfl), List.forall_mem_cons.mpr ⟨hin5 (List.mem_of_getElem? (i := 136) rfl), List.forall_mem_cons.mpr ⟨hin2 (List.mem_of_getElem? (i := 213) rfl), List.forall_mem_cons.mpr ⟨hin3 (List.mem_of_getElem? (i := 223) rfl), fun _ h => by cases h⟩⟩⟩⟩⟩⟩⟩⟩⟩⟩⟩⟩⟩⟩⟩⟩⟩⟩⟩⟩⟩⟩⟩⟩⟩⟩⟩
theorem hNcs_in {args : Array Value} {s : State} (h : (Jvm.Cond.and given_1 narrow_1).before args s = true) : ∀ q ∈ hNcs, va_Nc q.1 q.2 s := List.forall_mem_cons.mpr ⟨va_Nc.of (flat_of_before _ h (.not (.castable "java/lang/IllegalStateException" "java/lang/IllegalArgumentException")) (by decide +kernel)), List.forall_mem_cons.mpr ⟨va_Nc.of (flat_of_before _ h (.not (.castable "java/lang/IllegalStateException" "java/lang/IndexOutOfBoundsException")) (by decide +kernel)), List.forall_mem_cons.mpr ⟨va_Nc.of (flat_of_before _ h (.not (.castable "java/lang/UnsupportedOperationException" "java/lang/IllegalArgumentException")) (by decide +kernel)), List.forall_mem_cons.mpr ⟨va_Nc.of (flat_of_before _ h (.not (.castable "java/lang/UnsupportedOperationException" "java/lang/IndexOutOfBoundsException")) (by decide +kernel)), List.forall_mem_cons.mpr ⟨va_Nc.of (flat_of_before _ h (.not (.castable "java/lang/UnsupportedOperationException" "java/util/NoSuchElementException")) (by decide +kernel)), List.forall_mem_cons.mpr ⟨va_Nc.of (flat_of_before _ h (.not (.castable "java/lang/IllegalArgumentException" "java/lang/IndexOutOfBoundsException")) (by decide +kernel)), List.forall_mem_cons.mpr ⟨va_Nc.of (flat_of_before _ h (.not (.castable "java/lang/IllegalArgumentException" "java/util/NoSuchElementException")) (by decide +kernel)), List.forall_mem_cons.mpr ⟨va_Nc.of (flat_of_before _ h (.not (.castable "java/util/NoSuchElementException" "java/lang/IndexOutOfBoundsException")) (by decide +kernel)), List.forall_mem_cons.mpr ⟨va_Nc.of (flat_of_before _ h (.not (.castable "java/util/NoSuchElementException" "java/lang/IllegalStateException")) (by decide +kernel)), List.forall_mem_cons.mpr ⟨va_Nc.of (flat_of_before _ h (.not (.castable "java/lang/ArithmeticException" "java/lang/IndexOutOfBoundsException")) (by decide +kernel)), List.forall_mem_cons.mpr ⟨va_Nc.of (flat_of_before _ h (.not (.castable "java/lang/IllegalArgumentException" "java/lang/UnsupportedOperationException")) (by decide +kernel)), fun _ h => by cases h⟩⟩⟩⟩⟩⟩⟩⟩⟩⟩⟩
theorem h_ao0 : Cond.arrayOver (.object RX0) ∈ lw_tbl := hin1 (List.mem_of_getElem? (i := 39) rfl)
theorem h_ao5 : Cond.arrayOver (.object RX5) ∈ lw_tbl := hin1 (List.mem_of_getElem? (i := 222) rfl)
theorem h_arr {args : Array Value} {s : State} {ty : FieldType} (h : (Cond.arrayClass ty).before args s = true) (hn : ∀ C, ty ≠ .object C) : ∃ cA : ClassId, ArrOfT s cA ty ∧ va_RA s cA ty := by
  obtain ⟨c, k, comp, h1, h2, h3⟩ := Cond.arrayClass_spec h
  refine ⟨c, fun n z => ⟨(fun k h => by cases h), k, h2, comp, h3⟩, ?_⟩
  cases ty with
  | object C => exact absurd rfl (hn C)
  | _ => exact h1
theorem h_arrq {args : Array Value} {s : State} {C : String} (h : (Cond.arrayOver (.object C)).before args s = true) : ∃ cA : ClassId, ArrOfT s cA (.object C) ∧ va_RA s cA (.object C) := by
  obtain ⟨comp, c, k, h1, -, h2, h3, h4⟩ := Cond.arrayOver_spec h
  exact ⟨c, fun n z => ⟨(fun k h => by cases h), k, h2, comp, h3⟩, k, comp, h2, h3, h1, h4⟩
theorem hin_J0 : ∀ w ∈ u_ws RJ0 TJ0 2, w ∈ lw_tbl := by decide +kernel
theorem hin_Jx : ∀ w ∈ u_ws RJx00060 TJx00060 6, w ∈ lw_tbl := by decide +kernel
theorem law_K {s : State} {args : Array Value} (hts : ∀ w ∈ lw_tbl, w.before args s = true) : ∃ (D : va_G) (cy : Nat → ClassId), va_K D vwCl (hTy cy) s := by
  obtain ⟨c0, i0, k0⟩ := u_known (C := RJ0) (T := TJ0) (N := 2) (n := 4) hts hin_J0 (hts _ mn_J0)
  obtain ⟨c1, i1, k1⟩ := u_known (C := RJx00060) (T := TJx00060) (N := 6) (n := 6) hts hin_Jx (hts _ mn_Jx00060)
  obtain ⟨c2, i2, k2⟩ := u_known (C := RX0) (T := TX0) (N := 11) (n := 11) hts hinX_X0 (hts _ mn_X0)
  obtain ⟨c3, i3, k3⟩ := u_known (C := RX1) (T := TX1) (N := 9) (n := 9) hts hinX_X1 (hts _ mn_X1)
  obtain ⟨c4, i4, k4⟩ := u_known (C := RX2) (T := TX2) (N := 6) (n := 6) hts hinX_X2 (hts _ mn_X2)
  obtain ⟨c5, i5, k5⟩ := u_known (C := RX3) (T := TX3) (N := 9) (n := 9) hts hinX_X3 (hts _ mn_X3)
  obtain ⟨c6, i6, k6⟩ := u_known (C := RX4) (T := TX4) (N := 4) (n := 4) hts hinX_X4 (hts _ mn_X4)
  obtain ⟨c7, i7, k7⟩ := u_known (C := RX5) (T := TX5) (N := 9) (n := 9) hts hinX_X5 (hts _ mn_X5)
  obtain ⟨c8, i8, k8⟩ := u_known (C := RX6) (T := TX6) (N := 3) (n := 3) hts hinX_X6 (hts _ mn_X6)
  obtain ⟨c9, i9, k9⟩ := u_known (C := RX7) (T := TX7) (N := 5) (n := 5) hts hinX_X7 (hts _ mn_X7)
  obtain ⟨c10, i10, k10⟩ := u_known (C := RX8) (T := TX8) (N := 10) (n := 10) hts hinX_X8 (hts _ mn_X8)
  obtain ⟨c11, i11, k11⟩ := u_known (C := RX9) (T := TX9) (N := 22) (n := 22) hts hinX_X9 (hts _ mn_X9)
  obtain ⟨y0, a0⟩ := h_arr (hts _ ma_int) (fun C h => by cases h)
  obtain ⟨y1, a1⟩ := h_arr (hts _ ma_char) (fun C h => by cases h)
  obtain ⟨y2, a2⟩ := h_arr (hts _ ma_float) (fun C h => by cases h)
  obtain ⟨y3, a3⟩ := h_arrq (hts _ h_ao0)
  obtain ⟨y4, a4⟩ := h_arrq (hts _ h_ao5)
  obtain ⟨y5, a5⟩ := h_arr (hts _ ma_long) (fun C h => by cases h)
  obtain ⟨y6, a6⟩ := h_arr (hts _ ma_double) (fun C h => by cases h)
  refine ⟨(fun k => [c0, c1, c2, c3, c4, c5, c6, c7, c8, c9, c10, c11].getD k 0, fun k => [i0, i1, i2, i3, i4, i5, i6, i7, i8, i9, i10, i11].getD k (fun _ => 0)), fun k => [y0, y1, y2, y3, y4, y5, y6].getD k 0, ?_, ?_⟩
  · intro c q hq
    match c, hq with
    | 0, hq => cases hq; exact k0
    | 1, hq => cases hq; exact k1
    | 2, hq => cases hq; exact k2
    | 3, hq => cases hq; exact k3
    | 4, hq => cases hq; exact k4
    | 5, hq => cases hq; exact k5
    | 6, hq => cases hq; exact k6
    | 7, hq => cases hq; exact k7
    | 8, hq => cases hq; exact k8
    | 9, hq => cases hq; exact k9
    | 10, hq => cases hq; exact k10
    | 11, hq => cases hq; exact k11
    | c + 12, hq => simp [vwCl] at hq
  · intro c q hq
    match c, hq with
    | 0, hq => cases hq; exact a0
    | 1, hq => cases hq; exact a1
    | 2, hq => cases hq; exact a2
    | 3, hq => cases hq; exact a3
    | 4, hq => cases hq; exact a4
    | 5, hq => cases hq; exact a5
    | 6, hq => cases hq; exact a6
    | c + 7, hq => simp [hTy] at hq
theorem law_V {s : State} {b : Nat} (hts : ∀ w ∈ lw_tbl, w.before #[Value.ref b] s = true) (hgv : (Jvm.Cond.and given_1 narrow_1).before #[Value.ref b] s = true) : hV s := by
  obtain ⟨cur, kC, hcur, -⟩ := Cond.instantiable_spec (hts _ mn_X8)
  refine ⟨fun w hw hk a => hKind_at (args := #[Value.ref b]) (State.WarmedH.refl s) hk (hts w hw), fun q hq => ?_, hNcs_in hgv, ?_, ?_⟩
  · have h1 := hts _ (hStr_in q hq)
    obtain ⟨_, _, _, a, _, _, _, _, _, h2⟩ := Cond.stringRef_spec hcur h1
    exact ⟨a, by simpa [Cond.before, Cond.holds, Cond.value] using h1, by simpa [Term.eval] using h2⟩
  · exact (by simpa [va_AO, Cond.before, Cond.holds, Cond.value] using hts _ h_ao0)
  · exact (by simpa [va_AO, Cond.before, Cond.holds, Cond.value] using hts _ h_ao5)
def f00 : Hf := fun _ => none
theorem law_Z {s : State} {b : Nat} (hts : ∀ w ∈ lw_tbl, w.before #[Value.ref b] s = true) (hgv : (Jvm.Cond.and given_1 narrow_1).before #[Value.ref b] s = true) : hZ (hA f00 s.heap.size) s s.heap := by
  have hn : ∀ a : Nat, a < s.heap.size → ¬ hA f00 s.heap.size a := fun a h q => by
    rcases q with q | q
    · exact q rfl
    · omega
  have hg := flat_of_before _ hgv
  exact ⟨vx_Zqof (hts _ (hinZ0)) (hts _ mz_java_lang_Throwable) (hg (.isRef (.static Bundle.tN "UNASSIGNED_STACK" Bundle.steD)) (by decide +kernel)) hn, vx_Zqof (hts _ (hinZ1)) (hts _ mz_java_lang_Throwable) (hg (.isRef (.static Bundle.tN "SUPPRESSED_SENTINEL" Bundle.listD)) (by decide +kernel)) hn⟩
theorem law_C {p : Program} {s : State} {m : MethodId} {meth : Method} {c : Code} {l : Launch} (hflags : l.flags = flags0) {b L : Nat} {xs : Nat → Int32} (C0 : lw_At p s m meth c b L xs) : ∃ (D : va_G) (cy : Nat → ClassId), hC p l s m meth c code 9 #[Value.ref b] RL D (hTy cy) (hA f00 s.heap.size) := by
  obtain ⟨hx, hb, hr, hml, hown, hts, hX, hbl, hlocks, hgv⟩ := C0
  obtain ⟨D, cy, hK⟩ := law_K hts
  refine ⟨D, cy, ⟨hx, hb, hml, hown, fun w hw => hts w (List.mem_filter.mp hw).1⟩, hK, law_Z hts hgv, law_V hts hgv, fun q h => Or.inr h, hlocks, ?_, fun q => absurd rfl q⟩
  rw [Launch.stackTraces, hflags]; decide
theorem law_G {D : va_G} {s : State} {sz : Nat} : hG D (hA f00 sz) f00 s s.heap [] := ⟨fun (a : Nat) (e : va_E) (h : f00 a = some e) => (by cases h), va_S.rf⟩
