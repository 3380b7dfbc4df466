/-! MY OWN WORLD: the heap as a map from addresses to cells that may lack one; one contract shape for all methods (returns or throws) -/
abbrev Hf : Type := Nat → Option va_E
def hq (D : va_G) (A : Nat → Prop) (f : Hf) (H : Heap) : Prop := ∀ (a : Nat) (e : va_E), f a = some e → va_at D vwCl (a, e) H ∧ A a
def hA (f : Hf) (sz : Nat) : Nat → Prop := fun q => f q ≠ none ∨ sz ≤ q
def hZ (A : Nat → Prop) (U : State) (H : Heap) : Prop := vx_Zq Bundle.tN "UNASSIGNED_STACK" Bundle.steD A U H ∧ vx_Zq Bundle.tN "SUPPRESSED_SENTINEL" Bundle.listD A U H
def hStr : List (Nat × String) := [(110, "no such ball"), (116, "way, kind or runs out of range"), (126, "number of overs out of range"), (133, "the match refuses this"), (149, "character out of range"), (157, "the buffer is full"), (171, "the text is malformed"), (179, "an element is refused"), (187, "no text was malformed"), (190, "no element was refused"), (192, "no such number"), (243, "no such index"), (251, "the last innings has not begun"), (270, "no legal balls"), (273, "no balls faced"), (290, "a row was not stored yet"), (295, "the rows have different element types"), (300, "count out of range"), (309, "no such element"), (320, "nothing to undo"), (335, "nothing to restore"), (337, "no match"), (342, "no such innings has begun"), (344, "no such innings has begun, or no such player"), (346, "no such row"), (62, "overs, innings or team out of range"), (87, "no such player")]
def hNcs : List (String × String) := [("java/lang/IllegalStateException", "java/lang/IllegalArgumentException"), ("java/lang/IllegalStateException", "java/lang/IndexOutOfBoundsException"), ("java/lang/UnsupportedOperationException", "java/lang/IllegalArgumentException"), ("java/lang/UnsupportedOperationException", "java/lang/IndexOutOfBoundsException"), ("java/lang/UnsupportedOperationException", "java/util/NoSuchElementException"), ("java/lang/IllegalArgumentException", "java/lang/IndexOutOfBoundsException"), ("java/lang/IllegalArgumentException", "java/util/NoSuchElementException"), ("java/util/NoSuchElementException", "java/lang/IndexOutOfBoundsException"), ("java/util/NoSuchElementException", "java/lang/IllegalStateException"), ("java/lang/ArithmeticException", "java/lang/IndexOutOfBoundsException"), ("java/lang/IllegalArgumentException", "java/lang/UnsupportedOperationException")]
/-- the kinds of words that stay true wherever the tables stay alike -/
def hKind : Cond → Bool
  | .declares _ => true
  | .castable _ _ => true
  | .methodLinkNest _ _ _ _ => true
  | w => goodWord w
theorem hKind_at {args a' : Array Value} {s U : State} {w : Cond} (hW : s.WarmedH U.vm) (hk : hKind w = true) (h : w.before args s = true) : w.before a' U = true := by
  cases w with
  | declares x => exact va_Nw.use rfl (va_Nw.warmD hW (va_Nw.of (A := args) rfl h))
  | castable x y => exact va_Nw.use rfl (va_Nw.warmC hW (va_Nw.of (A := args) rfl h))
  | methodLinkNest a b c d => exact va_Nw.use rfl (va_Nw.warmM hW (va_Nw.of (A := args) rfl h))
  | _ => exact word_at hW (good_of_word hk) h
/-- the tables: their words, the texts, who isn't castable to whom, the two arrays of references -/
def hV (U : State) : Prop := (∀ w ∈ lw_tbl, hKind w = true → ∀ a, w.before a U = true) ∧ (∀ q ∈ hStr, ∃ a, vk_R RX8 q.1 q.2 a U) ∧ (∀ q ∈ hNcs, va_Nc q.1 q.2 U) ∧ va_AO RX0 U ∧ va_AO RX5 U
theorem hV.warm {s U : State} (hW : s.WarmedH U.vm) (h : hV s) : hV U := ⟨fun w hw hk a => hKind_at hW hk (h.1 w hw hk #[]), fun q hq => by obtain ⟨a, ha⟩ := h.2.1 q hq; exact ⟨a, vk_R.warm hW ha⟩, fun q hq => va_Nc.moved hW.alike (h.2.2.1 q hq), va_AO.moved hW.alike h.2.2.2.1, va_AO.moved hW.alike h.2.2.2.2⟩
theorem hV.call {U : State} {g : JFrame} {mk : MethodId} {a : Array Value} (h : hV U) : hV (U.calling g mk a) := hV.warm (U := U.calling g mk a) (State.WarmedH.refl U) h
theorem hZ.call {A : Nat → Prop} {U : State} {g : JFrame} {mk : MethodId} {a : Array Value} {H : Heap} (h : hZ A U H) : hZ A (U.calling g mk a) H := ⟨vx_Zq.moved (u := U) (U := U.calling g mk a) (Vm.Alike.refl U.vm) h.1, vx_Zq.moved (u := U) (U := U.calling g mk a) (Vm.Alike.refl U.vm) h.2⟩
def hW (D : va_G) (tys : List (ClassId × FieldType)) (f : Hf) (sz : Nat) (U : State) : Prop := U.heap.size = sz ∧ hq D (fun _ => True) f U.heap ∧ va_K D vwCl tys U ∧ hZ (hA f sz) U U.heap ∧ hV U
theorem hW_blind {D : va_G} {tys : List (ClassId × FieldType)} {f : Hf} {sz : Nat} {av : List Value} : FrameBlind (va_Pc av (hW D tys f sz)) := by
  intro a U g mk h
  obtain ⟨h0, h1, h2, h3, h4, h5⟩ := h
  exact ⟨h0, h1, h2, va_K.moved (u := U) (U := U.calling g mk a) (Vm.Alike.refl U.vm) h3, h4.call, h5.call⟩
theorem hq.weaken {D : va_G} {A B : Nat → Prop} {f : Hf} {H : Heap} (h : hq D A f H) (hAB : ∀ a, A a → B a) : hq D B f H := fun a e q => ⟨(h a e q).1, hAB a (h a e q).2⟩
theorem hq_set {D : va_G} {A : Nat → Prop} {f : Hf} {H H1 : Heap} {a : Nat} {e : va_E} (h : hq D A f H) (ha : A a) (he : va_at D vwCl (a, e) H1) (oq : ∀ q, q ≠ a → H1[q]? = H[q]?) : hq D A (va_up f a (some e)) H1 := by
  intro b eb hb
  by_cases hba : b = a
  · subst hba
    rw [va_up_self] at hb
    cases hb
    exact ⟨he, ha⟩
  · rw [va_up_ne _ _ hba] at hb
    exact ⟨(h b eb hb).1.kept (oq b hba), (h b eb hb).2⟩
theorem hq_new {D : va_G} {A : Nat → Prop} {f : Hf} {H H1 : Heap} {e : va_E} (h : hq D A f H) (ha : A H.size) (he : va_at D vwCl (H.size, e) H1) (oq : ∀ q, q < H.size → H1[q]? = H[q]?) : f H.size = none ∧ hq D A (va_up f H.size (some e)) H1 := by
  refine ⟨?_, ?_⟩
  · cases hf : f H.size with
    | none => rfl
    | some e0 => exact absurd (h _ _ hf).1.lt (Nat.lt_irrefl _)
  · intro b eb hb
    by_cases hba : b = H.size
    · subst hba
      rw [va_up_self] at hb
      cases hb
      exact ⟨he, ha⟩
    · rw [va_up_ne _ _ hba] at hb
      exact ⟨(h b eb hb).1.kept (oq b (h b eb hb).1.lt), (h b eb hb).2⟩
theorem hq_P {D : va_G} {A : Nat → Prop} {f : Hf} {H : Heap} {a : Nat} {e : va_E} (h : hq D A f H) (he : f a = some e) : va_P D vwCl [(a, e)] H := by
  intro k q hk
  match k, hk with
  | 0, hk => cases hk; exact (h a e he).1
  | k + 1, hk => simp at hk
/-- what stays fixed through a method's walk -/
def hC (p : Program) (l : Launch) (s : State) (m : MethodId) (meth : Method) (c : Code) (cc : ByteArray) (nL : Nat) (args : Array Value) (own : String) (D : va_G) (tys : List (ClassId × FieldType)) (A : Nat → Prop) : Prop :=
  CallFix p m c cc nL s args (lw_tbl.filter hKind) own ∧ va_K D vwCl tys s ∧ hZ A s s.heap ∧ hV s ∧ (∀ q, s.heap.size ≤ q → A q) ∧ meth.locks = false ∧ l.stackTraces = false ∧ (own ≠ "WicketScorerLaw" → ∀ x ∈ c.exceptionTable.toList, False)
/-- the world at a point of the walk -/
def hG (D : va_G) (A : Nat → Prop) (f : Hf) (s : State) (H : Heap) (locs : List Loc) : Prop := hq D A f H ∧ va_S A s.heap H locs
theorem hwf {w : Cond} (h : w ∈ lw_tbl) (hk : hKind w = true) : w ∈ lw_tbl.filter hKind := List.mem_filter.mpr ⟨h, hk⟩
theorem hne {f : Hf} {a b : Nat} {e1 e2 : va_E} (h1 : f a = some e1) (h2 : f b = some e2) (h : e1 ≠ e2) : a ≠ b := fun q => by subst q; exact h (Option.some.inj (h1.symm.trans h2))
theorem hneN {f : Hf} {a b : Nat} {e1 : va_E} (h1 : f a = some e1) (h2 : f b = none) : a ≠ b := fun q => by subst q; rw [h1] at h2; cases h2
theorem hup {f f1 : Hf} {a b : Nat} {e : Option va_E} {x : Option va_E} (hf : f1 = va_up f a e) (hn : b ≠ a) (h : f b = x) : f1 b = x := by rw [hf, va_up_ne _ _ hn]; exact h
theorem hus {f f1 : Hf} {a : Nat} {e : Option va_E} (hf : f1 = va_up f a e) : f1 a = e := by rw [hf, va_up_self]
section GR
variable {p : Program} {l : Launch} {e : Env} {R : Room} {s : State} {m : MethodId} {args : Array Value} {below : List Frame} {meth : Method} {c : Code} {H : Heap} {locs : List Loc} {cells slots : Nat} {Q : State → Prop}
variable {cc : ByteArray} {nL pc : Nat} {ls : Array Slot} {rest st0 : List Value} {D : va_G} {A : Nat → Prop} {a : Nat} {tys : List (ClassId × FieldType)} {f : Hf} {own : String}
theorem g_get (C0 : hC p l s m meth c cc nL args own D tys A) (G : hG D A f s H locs) {C : String} {T : u_T} {N ci index : Nat} {fs : List Value} (he : f a = some (.inr (ci, fs))) (hc : vwCl[ci]? = some (C, T, N)) (hin : ∀ w ∈ u_ws C T N, w ∈ lw_tbl.filter hKind) (k : Nat) (hk : k < N) (hl0 : Cond.fieldLink own index (T k).1 (T k).2.1 (T k).2.2.1 ∈ lw_tbl) {v : Value} (hv : fs[k]? = some v) (hdg : decode cc pc = .ok (.getfield index, 3))
    (kk : W p l e R s m args below meth c H locs cells slots Q (F0 m (pc + 3) ls (v :: rest))) : W p l e R s m args below meth c H locs cells slots Q (F0 m pc ls (.ref a :: rest)) := by
  obtain ⟨⟨hx, hb, -, ho, ht⟩, hK, -⟩ := C0
  exact va_get hx hb ht hin ho hK (hq_P G.1 he) 0 rfl hc k hk (ht _ (hwf hl0 rfl)) (fun _ h => h) hv hdg kk
theorem g_put (C0 : hC p l s m meth c cc nL args own D tys A) (G : hG D A f s H locs) {C : String} {T : u_T} {N ci index : Nat} {fs : List Value} (he : f a = some (.inr (ci, fs))) (hc : vwCl[ci]? = some (C, T, N)) (hin : ∀ w ∈ u_ws C T N, w ∈ lw_tbl.filter hKind) (ty0 : Nat → FieldType) (hty : ∀ k, k < N → parseFieldDescriptor (T k).2.2.1 = some (ty0 k)) (hnm : ∀ a, a < N → ∀ b, b < N → a ≠ b → (T a).2.1 ≠ (T b).2.1) (k : Nat) (hk : k < N) (hl0 : Cond.fieldLink own index (T k).1 (T k).2.1 (T k).2.2.1 ∈ lw_tbl) (hfin : (T k).2.2.2 = false) {ty : FieldType} {v : Value} (hd : ty0 k = ty) (hn : narrow ty v = v) (hfit : fits ty v = true) (hlen : k < fs.length) (hdg : decode cc pc = .ok (.putfield index, 3))
    (kk : ∀ (H1 : Heap) (locs1 : List Loc) (f1 : Hf), f1 = va_up f a (some (.inr (ci, fs.set k v))) → hG D A f1 s H1 locs1 → W p l e R s m args below meth c H1 locs1 cells slots Q (F0 m (pc + 3) ls rest)) : W p l e R s m args below meth c H locs cells slots Q (F0 m pc ls (v :: .ref a :: rest)) := by
  obtain ⟨⟨hx, hb, -, ho, ht⟩, hK, -⟩ := C0
  have hap := va_apart (own := own) ht hin ty0 hty hnm hK hc
  obtain ⟨⟨r, h1, cell, q1, q2, q3, q4⟩, haA⟩ := G.1 a _ he
  have hr : r = (C, T, N) := Option.some.inj (h1.symm.trans hc)
  subst hr
  obtain ⟨hS, hfc, kC, hkC, hkind⟩ := hK.1 ci _ hc
  obtain ⟨cf, kf, fi, fd, hi, hsl⟩ := hS k hk
  have hlay := ht _ (hin _ (u_in_lay hk))
  unfold u_lay at hlay
  rw [if_neg (by rw [hfin]; decide)] at hlay
  have hst := (u_facts hfc hkC (u_lays ht hin hk) hi).1
  have h6 := u_store hfc hkC hkind hlay hi ((hty k hk).trans (congrArg some hd)) hn hfit
  refine W.putK hx hb (f := fd) ⟨ho, ht _ (hwf hl0 rfl), ⟨_, _, _, hi⟩, hst⟩ (by rw [q2]; exact h6) q1 q3 (by rw [hsl]; exact k2_hasslot (q4 k hk)) rfl rfl hdg fun H' e1 e2 e3 => ?_
  rw [hsl] at e1 ⊢
  exact kk H' _ _ rfl ⟨hq_set G.1 haA ⟨_, hc, t_OB.to (V := updV (vp_V fs) k v) ⟨_, e1, q2, q3, t_set q4 hap hk v⟩ (fun j _ => vp_updV_set hlen v j)⟩ e3, G.2.put e2 e3 haA⟩
theorem g_putF (C0 : hC p l s m meth c cc nL args own D tys A) (G : hG D A f s H locs) (hinit : meth.name = "<init>") {C : String} {T : u_T} {N ci index : Nat} {fs : List Value} (he : f a = some (.inr (ci, fs))) (hc : vwCl[ci]? = some (C, T, N)) (hin : ∀ w ∈ u_ws C T N, w ∈ lw_tbl.filter hKind) (ty0 : Nat → FieldType) (hty : ∀ k, k < N → parseFieldDescriptor (T k).2.2.1 = some (ty0 k)) (hnm : ∀ a, a < N → ∀ b, b < N → a ≠ b → (T a).2.1 ≠ (T b).2.1) (k : Nat) (hk : k < N) (hl0 : Cond.fieldLink own index (T k).1 (T k).2.1 (T k).2.2.1 ∈ lw_tbl) (hfin : (T k).2.2.2 = true) (hdecl : (T k).1 = own) {ty : FieldType} {v : Value} (hd : ty0 k = ty) (hn : narrow ty v = v) (hfit : fits ty v = true) (hlen : k < fs.length) (hdg : decode cc pc = .ok (.putfield index, 3))
    (kk : ∀ (H1 : Heap) (locs1 : List Loc) (f1 : Hf), f1 = va_up f a (some (.inr (ci, fs.set k v))) → hG D A f1 s H1 locs1 → W p l e R s m args below meth c H1 locs1 cells slots Q (F0 m (pc + 3) ls rest)) : W p l e R s m args below meth c H locs cells slots Q (F0 m pc ls (v :: .ref a :: rest)) := by
  obtain ⟨⟨hx, hb, -, ho, ht⟩, hK, -⟩ := C0
  have hap := va_apart (own := own) ht hin ty0 hty hnm hK hc
  obtain ⟨⟨r, h1, cell, q1, q2, q3, q4⟩, haA⟩ := G.1 a _ he
  have hr : r = (C, T, N) := Option.some.inj (h1.symm.trans hc)
  subst hr
  obtain ⟨hS, hfc, kC, hkC, hkind⟩ := hK.1 ci _ hc
  obtain ⟨cf, kf, fi, fd, hi, hsl⟩ := hS k hk
  have hlay := ht _ (hin _ (u_in_lay hk))
  unfold u_lay at hlay
  rw [if_pos hfin] at hlay
  have hst := (u_facts hfc hkC (u_lays ht hin hk) hi).1
  have hcf : m.cls = cf := by
    obtain ⟨_, _, c', _, _, _, -, -, hf', -, -, -, hown2, -⟩ := Cond.laysFinal_spec hlay
    have e1 : c' = cf := by have := hi.symm.trans hf'; simp at this; exact this.1.symm
    rw [hdecl] at hown2
    rw [← e1]; exact Option.some.inj (ho.symm.trans hown2)
  have h6 := u_fits hfc hkC hkind (Or.inr hlay) hi ((hty k hk).trans (congrArg some hd)) hn hfit
  refine W.putFinK hx hb ho (ht _ (hwf hl0 rfl)) hi hst hcf hinit (by rw [q2]; exact h6) q1 q3 (by rw [hsl]; exact k2_hasslot (q4 k hk)) rfl rfl hdg fun H' e1 e2 e3 => ?_
  rw [hsl] at e1 ⊢
  exact kk H' _ _ rfl ⟨hq_set G.1 haA ⟨_, hc, t_OB.to (V := updV (vp_V fs) k v) ⟨_, e1, q2, q3, t_set q4 hap hk v⟩ (fun j _ => vp_updV_set hlen v j)⟩ e3, G.2.put e2 e3 haA⟩
theorem g_iald (C0 : hC p l s m meth c cc nL args own D tys A) (G : hG D A f s H locs) {cA : ClassId} {n : Nat} {g : Nat → Int32} (he : f a = some (.inl (cA, n, .inl g))) (t0 : Nat) (ht : tys[t0]? = some (cA, .int)) {i : Int32} (hin : vp_in i n) (hdg : decode cc pc = .ok (.iaload, 1))
    (kk : W p l e R s m args below meth c H locs cells slots Q (F0 m (pc + 1) ls (.int (g i.toNatClampNeg) :: rest))) : W p l e R s m args below meth c H locs cells slots Q (F0 m pc ls (.int i :: .ref a :: rest)) := va_iald C0.1.1 C0.1.2.1 C0.2.1 (hq_P G.1 he) 0 t0 rfl ht hin hdg kk
theorem g_cald (C0 : hC p l s m meth c cc nL args own D tys A) (G : hG D A f s H locs) {cA : ClassId} {n : Nat} {g : Nat → Int32} (he : f a = some (.inl (cA, n, .inl g))) (t0 : Nat) (ht : tys[t0]? = some (cA, .char)) {i : Int32} (hin : vp_in i n) (hdg : decode cc pc = .ok (.caload, 1))
    (kk : W p l e R s m args below meth c H locs cells slots Q (F0 m (pc + 1) ls (.int (g i.toNatClampNeg) :: rest))) : W p l e R s m args below meth c H locs cells slots Q (F0 m pc ls (.int i :: .ref a :: rest)) := va_cald C0.1.1 C0.1.2.1 C0.2.1 (hq_P G.1 he) 0 t0 rfl ht hin hdg kk
theorem g_lald (C0 : hC p l s m meth c cc nL args own D tys A) (G : hG D A f s H locs) {cA : ClassId} {n : Nat} {g : Nat → Int64} (he : f a = some (.inl (cA, n, .inr (.inl g)))) (t0 : Nat) (ht : tys[t0]? = some (cA, .long)) {i : Int32} (hin : vp_in i n) (hdg : decode cc pc = .ok (.laload, 1))
    (kk : W p l e R s m args below meth c H locs cells slots Q (F0 m (pc + 1) ls (.long (g i.toNatClampNeg) :: rest))) : W p l e R s m args below meth c H locs cells slots Q (F0 m pc ls (.int i :: .ref a :: rest)) := va_lald C0.1.1 C0.1.2.1 C0.2.1 (hq_P G.1 he) 0 t0 rfl ht hin hdg kk
theorem g_fald (C0 : hC p l s m meth c cc nL args own D tys A) (G : hG D A f s H locs) {cA : ClassId} {n : Nat} {g : Nat → UInt32} (he : f a = some (.inl (cA, n, .inr (.inr (.inl g))))) (t0 : Nat) (ht : tys[t0]? = some (cA, .float)) {i : Int32} (hin : vp_in i n) (hdg : decode cc pc = .ok (.faload, 1))
    (kk : W p l e R s m args below meth c H locs cells slots Q (F0 m (pc + 1) ls (.float (g i.toNatClampNeg) :: rest))) : W p l e R s m args below meth c H locs cells slots Q (F0 m pc ls (.int i :: .ref a :: rest)) := va_fald C0.1.1 C0.1.2.1 C0.2.1 (hq_P G.1 he) 0 t0 rfl ht hin hdg kk
theorem g_aald (C0 : hC p l s m meth c cc nL args own D tys A) (G : hG D A f s H locs) {cA : ClassId} {C : String} {n : Nat} {g : Nat → Option Nat} (he : f a = some (.inl (cA, n, .inr (.inr (.inr (.inr g)))))) (t0 : Nat) (ht : tys[t0]? = some (cA, .object C)) {i : Int32} (hin : vp_in i n) {v : Value} (hv : va_rf (g i.toNatClampNeg) = v) (hdg : decode cc pc = .ok (.aaload, 1))
    (kk : W p l e R s m args below meth c H locs cells slots Q (F0 m (pc + 1) ls (v :: rest))) : W p l e R s m args below meth c H locs cells slots Q (F0 m pc ls (.int i :: .ref a :: rest)) := va_aldq C0.1.1 C0.1.2.1 C0.2.1 (hq_P G.1 he) 0 t0 rfl ht hin hdg (hv ▸ kk)
theorem g_alen (C0 : hC p l s m meth c cc nL args own D tys A) (G : hG D A f s H locs) {cA : ClassId} {x : vp_A} (he : f a = some (.inl (cA, x))) (t0 : Nat) {ty : FieldType} (ht : tys[t0]? = some (cA, ty)) {v : Int32} (hv : Int32.ofNat x.1 = v) (hdg : decode cc pc = .ok (.arraylength, 1))
    (kk : W p l e R s m args below meth c H locs cells slots Q (F0 m (pc + 1) ls (.int v :: rest))) : W p l e R s m args below meth c H locs cells slots Q (F0 m pc ls (.ref a :: rest)) := va_alen C0.1.1 C0.1.2.1 C0.2.1 (hq_P G.1 he) 0 t0 rfl ht hv hdg kk
theorem g_iast (C0 : hC p l s m meth c cc nL args own D tys A) (G : hG D A f s H locs) {cA : ClassId} {n : Nat} {g : Nat → Int32} (he : f a = some (.inl (cA, n, .inl g))) (t0 : Nat) (ht : tys[t0]? = some (cA, .int)) {i x : Int32} (hin : vp_in i n) (hdg : decode cc pc = .ok (.iastore, 1))
    (kk : ∀ (H1 : Heap) (locs1 : List Loc) (f1 : Hf), f1 = va_up f a (some (.inl (cA, n, .inl (upd g i.toNatClampNeg x)))) → hG D A f1 s H1 locs1 → W p l e R s m args below meth c H1 locs1 cells slots Q (F0 m (pc + 1) ls rest)) : W p l e R s m args below meth c H locs cells slots Q (F0 m pc ls (.int x :: .int i :: .ref a :: rest)) := by
  obtain ⟨hat, haA⟩ := G.1 a _ he
  refine W.iast C0.1.1 C0.1.2.1 hat ((C0.2.1.2 t0 _ ht).1 n (fun j => .int (g j))) (fun q => by cases q) (by show ¬ (i < 0 ∨ (arrV _ _ _).slots.size ≤ _); rw [arrV_size]; exact hin) rfl rfl hdg fun H1 e z oq => ?_
  refine kk H1 _ _ rfl ⟨hq_set G.1 haA ?_ oq, G.2.put z oq haA⟩
  show H1[a]? = some (vp_cell _ _)
  rw [e, vp_cell_i, vp_cell_i, arrV_store]
  congr 2
  funext q
  by_cases hq : q = i.toNatClampNeg
  · subst hq
    simp [updV, upd]
  · simp [updV, upd, hq]
theorem g_cast (C0 : hC p l s m meth c cc nL args own D tys A) (G : hG D A f s H locs) {cA : ClassId} {n : Nat} {g : Nat → Int32} (he : f a = some (.inl (cA, n, .inl g))) (t0 : Nat) (ht : tys[t0]? = some (cA, .char)) {i x : Int32} (hin : vp_in i n) (hdg : decode cc pc = .ok (.castore, 1))
    (kk : ∀ (H1 : Heap) (locs1 : List Loc) (f1 : Hf), f1 = va_up f a (some (.inl (cA, n, .inl (upd g i.toNatClampNeg (vp_nar .char x))))) → hG D A f1 s H1 locs1 → W p l e R s m args below meth c H1 locs1 cells slots Q (F0 m (pc + 1) ls rest)) : W p l e R s m args below meth c H locs cells slots Q (F0 m pc ls (.int x :: .int i :: .ref a :: rest)) := by
  obtain ⟨hat, haA⟩ := G.1 a _ he
  refine W.cast C0.1.1 C0.1.2.1 hat ((C0.2.1.2 t0 _ ht).1 n (fun j => .int (g j))) (fun q => by cases q) (by show ¬ (i < 0 ∨ (arrV _ _ _).slots.size ≤ _); rw [arrV_size]; exact hin) rfl rfl hdg fun H1 e z oq => ?_
  refine kk H1 _ _ rfl ⟨hq_set G.1 haA ?_ oq, G.2.put z oq haA⟩
  show H1[a]? = some (vp_cell _ _)
  rw [e, vp_cell_i, vp_cell_i, arrV_store]
  congr 2
  funext q
  by_cases hq : q = i.toNatClampNeg
  · subst hq
    simp [updV, upd, vp_nar]
    try rfl
  · simp [updV, upd, hq]
theorem g_last (C0 : hC p l s m meth c cc nL args own D tys A) (G : hG D A f s H locs) {cA : ClassId} {n : Nat} {g : Nat → Int64} (he : f a = some (.inl (cA, n, .inr (.inl g)))) (t0 : Nat) (ht : tys[t0]? = some (cA, .long)) {i : Int32} {x : Int64} (hin : vp_in i n) (hdg : decode cc pc = .ok (.lastore, 1))
    (kk : ∀ (H1 : Heap) (locs1 : List Loc) (f1 : Hf), f1 = va_up f a (some (.inl (cA, n, .inr (.inl (vp_updL g i.toNatClampNeg x))))) → hG D A f1 s H1 locs1 → W p l e R s m args below meth c H1 locs1 cells slots Q (F0 m (pc + 1) ls rest)) : W p l e R s m args below meth c H locs cells slots Q (F0 m pc ls (.long x :: .int i :: .ref a :: rest)) := by
  obtain ⟨hat, haA⟩ := G.1 a _ he
  refine W.last C0.1.1 C0.1.2.1 hat ((C0.2.1.2 t0 _ ht).1 n (fun j => .long (g j))) (fun q => by cases q) (by show ¬ (i < 0 ∨ (arrV _ _ _).slots.size ≤ _); rw [arrV_size]; exact hin) rfl rfl hdg fun H1 e z oq => ?_
  refine kk H1 _ _ rfl ⟨hq_set G.1 haA ?_ oq, G.2.put z oq haA⟩
  show H1[a]? = some (vp_cell _ _)
  rw [e, vp_cell_l, vp_cell_l, arrV_store]
  congr 2
  funext q
  by_cases hq : q = i.toNatClampNeg
  · subst hq
    simp [updV, vp_updL]
  · simp [updV, vp_updL, hq]
theorem g_fast (C0 : hC p l s m meth c cc nL args own D tys A) (G : hG D A f s H locs) {cA : ClassId} {n : Nat} {g : Nat → UInt32} (he : f a = some (.inl (cA, n, .inr (.inr (.inl g))))) (t0 : Nat) (ht : tys[t0]? = some (cA, .float)) {i : Int32} {x : UInt32} (hin : vp_in i n) (hdg : decode cc pc = .ok (.fastore, 1))
    (kk : ∀ (H1 : Heap) (locs1 : List Loc) (f1 : Hf), f1 = va_up f a (some (.inl (cA, n, .inr (.inr (.inl (vf_upd g i.toNatClampNeg x)))))) → hG D A f1 s H1 locs1 → W p l e R s m args below meth c H1 locs1 cells slots Q (F0 m (pc + 1) ls rest)) : W p l e R s m args below meth c H locs cells slots Q (F0 m pc ls (.float x :: .int i :: .ref a :: rest)) := by
  obtain ⟨hat, haA⟩ := G.1 a _ he
  refine W.fast C0.1.1 C0.1.2.1 hat ((C0.2.1.2 t0 _ ht).1 n (fun j => .float (g j))) (fun q => by cases q) (by show ¬ (i < 0 ∨ (arrV _ _ _).slots.size ≤ _); rw [arrV_size]; exact hin) rfl rfl hdg fun H1 e z oq => ?_
  refine kk H1 _ _ rfl ⟨hq_set G.1 haA ?_ oq, G.2.put z oq haA⟩
  show H1[a]? = some (vp_cell _ _)
  rw [e, vp_cell_f, vp_cell_f, arrV_store]
  congr 2
  funext q
  by_cases hq : q = i.toNatClampNeg
  · subst hq
    simp [updV, vf_upd]
  · simp [updV, vf_upd, hq]
theorem g_aast (C0 : hC p l s m meth c cc nL args own D tys A) (G : hG D A f s H locs) {cA : ClassId} {r : vw_C} {ci n v : Nat} {vs : List Value} {g : Nat → Option Nat} (he : f a = some (.inl (cA, n, .inr (.inr (.inr (.inr g)))))) (t0 : Nat) (ht : tys[t0]? = some (cA, .object r.1)) (hv : f v = some (.inr (ci, vs))) (hc : vwCl[ci]? = some r) {i : Int32} (hin : vp_in i n) (hdg : decode cc pc = .ok (.aastore, 1))
    (kk : ∀ (H1 : Heap) (locs1 : List Loc) (f1 : Hf), f1 = va_up f a (some (.inl (cA, n, .inr (.inr (.inr (.inr (va_up g i.toNatClampNeg (some v)))))))) → hG D A f1 s H1 locs1 → W p l e R s m args below meth c H1 locs1 cells slots Q (F0 m (pc + 1) ls rest)) : W p l e R s m args below meth c H locs cells slots Q (F0 m pc ls (.ref v :: .int i :: .ref a :: rest)) := by
  obtain ⟨hat, haA⟩ := G.1 a _ he
  have hK := C0.2.1
  have hlt : i.toNatClampNeg < n := Nat.not_le.mp fun q => hin (Or.inr q)
  have h0 : ¬ i < 0 := fun q => hin (Or.inl q)
  obtain ⟨r', hr', cellV, g1, g2, g3, -⟩ := (G.1 v _ hv).1
  have hcls := (hK.1 ci r hc).2
  obtain ⟨kA, comp, k1, k2, k3, -⟩ := (hK.2 t0 _ ht).2
  have hcomp : comp = D.1 ci := Option.some.inj (k3.symm.trans hcls.1)
  subst hcomp
  obtain ⟨kC, hkC, -⟩ := hcls.2
  refine W.aast C0.1.1 C0.1.2.1 hat (fun q h => by cases h) (fun h => by cases h) k1 k2 rfl hkC ⟨h0, by show _ < (arrV _ _ _).slots.size; rw [arrV_size]; exact hlt⟩ g1 (fun q h => by rw [g3] at h; cases h) (by rw [g2]; exact hkC) (by rw [g2]; exact va_assign hcls) rfl rfl hdg fun H1 e z oq => ?_
  refine kk H1 _ _ rfl ⟨hq_set G.1 haA ?_ oq, G.2.put z oq haA⟩
  show H1[a]? = some (vp_cell _ _)
  rw [e, vp_cell_q, vp_cell_q, arrV_store]
  congr 2
  funext q
  by_cases hq : q = i.toNatClampNeg
  · subst hq
    simp [updV, va_up, va_rf]
  · simp [updV, va_up, hq]
theorem g_new (C0 : hC p l s m meth c cc nL args own D tys A) (G : hG D A f s H locs) {C : String} {T : u_T} {N ci index : Nat} (hc : vwCl[ci]? = some (C, T, N)) (hin : ∀ w ∈ u_ws C T N, w ∈ lw_tbl.filter hKind) (ty : Nat → FieldType) (hty : ∀ k, k < N → parseFieldDescriptor (T k).2.2.1 = some (ty k)) (hcl : Cond.classLink own index C ∈ lw_tbl) (hinst : Cond.instantiable C N ∈ lw_tbl) (hini : Cond.initialized C ∈ lw_tbl) {fs : List Value} (hfs : ∀ j, j < N → defaultValue (ty j) = vp_V fs j) (hcells : cells + 1 ≤ R.cells) (hslots : slots + N ≤ R.slots) (hdg : decode cc pc = .ok (.new index, 3))
    (kk : ∀ (q : Nat) (H1 : Heap) (f1 : Hf), f q = none → f1 = va_up f q (some (.inr (ci, fs))) → hG D A f1 s H1 locs → H.size ≤ q → W p l e R s m args below meth c H1 locs (cells + 1) (slots + N) Q (F0 m (pc + 3) ls (.ref q :: rest))) : W p l e R s m args below meth c H locs cells slots Q (F0 m pc ls rest) := by
  obtain ⟨⟨hx, hb, -, ho, ht⟩, hK, -, -, hA1, -⟩ := C0
  have hKn := hK.1 ci _ hc
  refine W.newcK hx hb ho (ht _ (hwf hcl rfl)) (ht _ (hwf hinst rfl)) (ht _ (hwf hini rfl)) rfl hdg hcells hslots hKn.2.1 rfl fun H1 kC hkC e1 z1 o1 => ?_
  obtain ⟨n1, n2⟩ := hq_new (H1 := H1) (e := .inr (ci, fs)) G.1 (hA1 _ G.2.1) ⟨_, hc, (u_born ty ht hin hKn hkC e1 hty).to hfs⟩ o1
  exact kk H.size H1 _ n1 rfl ⟨n2, Nat.le_trans G.2.1 (by omega), fun x h1 h2 => (o1 x (Nat.lt_of_lt_of_le h1 G.2.1)).trans (G.2.2.1 x h1 h2), G.2.2.2⟩ (Nat.le_refl _)
theorem g_newa (C0 : hC p l s m meth c cc nL args own D tys A) (G : hG D A f s H locs) {atype : ArrayType} (harr : Cond.arrayClass (newarray.typeOf atype) ∈ lw_tbl) {ty : FieldType} (hty : newarray.typeOf atype = ty) (t0 : Nat) {cA : ClassId} (ht : tys[t0]? = some (cA, ty)) {n : Int32} {N' : Nat} {a0 : vp_A} (ha : ∀ cA : ClassId, vp_cell cA a0 = arrV cA N' (fun _ => defaultValue ty)) (hn : ¬ n < 0) (hN : n.toNatClampNeg = N') (hbytes : N' * componentBytes ty ≤ 536870912) (hcells : cells + 1 ≤ R.cells) (hslots : slots + N' ≤ R.slots) (hdg : decode cc pc = .ok (.newarray atype, 2))
    (kk : ∀ (q : Nat) (H1 : Heap) (f1 : Hf), f q = none → f1 = va_up f q (some (.inl (cA, a0))) → hG D A f1 s H1 locs → H.size ≤ q → W p l e R s m args below meth c H1 locs (cells + 1) (slots + N') Q (F0 m (pc + 2) ls (.ref q :: rest))) : W p l e R s m args below meth c H locs cells slots Q (F0 m pc ls (.int n :: rest)) := by
  subst hty
  obtain ⟨⟨hx, hb, -, ho, htt⟩, hK, -, -, hA1, -⟩ := C0
  refine va_newaK hx hb (htt _ (hwf harr rfl)) rfl hdg rfl hn hN hbytes hcells hslots rfl fun H1 cB e1 z1 o1 hAr hNm => ?_
  have hcc : cB = cA := by
    have h9 := (hK.2 t0 _ ht).2
    cases atype <;> exact Option.some.inj (hNm.symm.trans h9)
  subst hcc
  obtain ⟨n1, n2⟩ := hq_new (H1 := H1) (e := .inl (cB, a0)) G.1 (hA1 _ G.2.1) (by show H1[H.size]? = some (vp_cell _ _); rw [ha]; exact e1) o1
  exact kk H.size H1 _ n1 rfl ⟨n2, Nat.le_trans G.2.1 (by omega), fun x h1 h2 => (o1 x (Nat.lt_of_lt_of_le h1 G.2.1)).trans (G.2.2.1 x h1 h2), G.2.2.2⟩ (Nat.le_refl _)
end GR
