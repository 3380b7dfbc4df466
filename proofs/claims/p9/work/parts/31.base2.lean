/-! calls, entries and ends over my world -/
def hPx (px : String → Hf → Prop) (D : va_G) (f : Hf) (sz : Nat) : String → State → State → Prop := vx_X (fun u : String × Hf => px u.1 u.2) (fun E u t => E = u.1 ∧ hq D (hA f sz) u.2 t.heap) (hA f sz)
def hQi (post : Int32 → Hf → Prop) (D : va_G) (f : Hf) (sz : Nat) : Array Value → State → Outcome → State → Prop := va_Qi post (fun (u : Hf) t => hq D (hA f sz) u t.heap) (hA f sz)
def hQv (post : Hf → Prop) (D : va_G) (f : Hf) (sz : Nat) : Array Value → State → Outcome → State → Prop := va_Qv post (fun (u : Hf) t => hq D (hA f sz) u t.heap) (hA f sz)
def hQr (post : Nat → Hf → Prop) (D : va_G) (f : Hf) (sz : Nat) : Array Value → State → Outcome → State → Prop := va_Qq (fun (r : Option Nat) (u : Hf) => ∃ a, r = some a ∧ post a u) (fun (u : Hf) t => hq D (hA f sz) u t.heap) (hA f sz)
def hQf (post : UInt32 → Hf → Prop) (D : va_G) (f : Hf) (sz : Nat) : Array Value → State → Outcome → State → Prop := va_Qf post (fun (u : Hf) t => hq D (hA f sz) u t.heap) (hA f sz)
def hQd (post : UInt64 → Hf → Prop) (D : va_G) (f : Hf) (sz : Nat) : Array Value → State → Outcome → State → Prop := va_Qd post (fun (u : Hf) t => hq D (hA f sz) u t.heap) (hA f sz)
theorem hq.to {D : va_G} {A : Nat → Prop} {f : Hf} {H : Heap} {t : State} (h : hq D A f H) (ht : t.heap = H) : hq D A f t.heap := by rw [ht]; exact h
/-- nothing is thrown -/
def hNo : String → Hf → Prop := fun _ _ => False
/-- a contract: the method y over the world f, the heap of size sz -/
abbrev hMet (l : Launch) (y : MethodName) (cc : ByteArray) (nL : Nat) (ret : Option FieldType) (rm : Room) (D : va_G) (tys : List (ClassId × FieldType)) (f : Hf) (sz : Nat) (av : List Value) (Qc : Array Value → State → Outcome → State → Prop) (px : String → Hf → Prop) : Prop :=
  vx_Met l y [.code y cc nL ret] rm (va_Pc av (hW D tys f sz)) Qc (hPx px D f sz) rm.cells rm.slots (hA f sz)
theorem h_enter {l : Launch} {y : MethodName} {cc : ByteArray} {nL : Nat} {ret : Option FieldType} {rm : Room} {D : va_G} {tys : List (ClassId × FieldType)} {f : Hf} {sz : Nat} {av : List Value} {Qc : Array Value → State → Outcome → State → Prop} {px : String → Hf → Prop}
    (hy : plainName y.cls = true) (hfl : l.stackTraces = false) (hlen : (lg_sl av).length ≤ nL)
    (body : ∀ p e s m below meth c, s.heap.size = sz → hC p l s m meth c cc nL av.toArray y.cls D tys (hA f sz) → meth.sig.returnType = ret → meth.name = y.name → hG D (hA f sz) f s s.heap [] → ∀ ls, lv_has ls nL (lv_args 0 av) → W p l e rm s m av.toArray below meth c s.heap [] 0 0 (vx_MQ below Qc (hPx px D f sz) av.toArray s rm.cells rm.slots (hA f sz)) (F0 m 0 ls [])) :
    hMet l y cc nL ret rm D tys f sz av Qc px := by
  refine vx_ofW (cc := cc) (maxL := nL) (ret := ret) hy rfl ?_
  intro p e s m args below meth c s₁ B hml het hv
  obtain ⟨rfl, hsz, hP, hK, hz, hv⟩ := hv
  subst hsz
  have hl := lv_entry av (n := nL) hlen
  rw [lg_entry_eq]
  refine body p e s m below meth c rfl ⟨⟨B.exec, B.bytes, hml, findClass_of_methodNamed B.named, fun w hw => hv.1 w (List.mem_filter.mp hw).1 (List.mem_filter.mp hw).2 _⟩, hK, hz, hv, fun q h => Or.inr h, B.notSynchronized, hfl, fun _ => het⟩ B.returns (name_of_methodNamed B.named B.method).1 ⟨fun a e h => ⟨(hP a e h).1, Or.inl (by rw [h]; exact fun q => by cases q)⟩, va_S.rf⟩ _ hl
section HC
variable {p : Program} {l : Launch} {e : Env} {R : Room} {s : State} {m : MethodId} {args : Array Value} {below : List Frame} {meth : Method} {c : Code} {H : Heap} {locs : List Loc} {cells slots mc ms : Nat} {Q : State → Prop}
variable {cc : ByteArray} {nL pc sz : Nat} {ls : Array Slot} {rest st0 : List Value} {D : va_G} {A : Nat → Prop} {a : Nat} {tys : List (ClassId × FieldType)} {f f0 : Hf} {own : String} {XC : String → State → State → Prop}
theorem g_iret (C0 : hC p l s m meth c cc nL args own D tys (hA f0 sz)) (G : hG D (hA f0 sz) f s H locs) {post : Int32 → Hf → Prop} {v : Int32} (hr : meth.sig.returnType = some .int) (hdg : decode cc pc = .ok (.ireturn, 1)) (hc : cells ≤ mc) (hs : slots ≤ ms) (hp : post v f) :
    W p l e R s m args below meth c H locs cells slots (vx_MQ below (hQi post D f0 sz) XC args s mc ms (hA f0 sz)) (F0 m pc ls [.int v]) := by
  have hlocks := C0.2.2.2.2.2.1
  exact W.widen hc hs (vx_ret (W.iret C0.1.1 C0.1.2.1 hr (fun t ht hW => ⟨⟨v, f, rfl, hp, G.1.to ht⟩, G.2.F ht⟩) G.2.2.2 hdg))
theorem g_zret (C0 : hC p l s m meth c cc nL args own D tys (hA f0 sz)) (G : hG D (hA f0 sz) f s H locs) {post : Int32 → Hf → Prop} {v : Int32} {ty : FieldType} (hr : meth.sig.returnType = some ty) (hdg : decode cc pc = .ok (.ireturn, 1)) (hn : narrow ty (.int v) = .int v) (hc : cells ≤ mc) (hs : slots ≤ ms) (hp : post v f) :
    W p l e R s m args below meth c H locs cells slots (vx_MQ below (hQi post D f0 sz) XC args s mc ms (hA f0 sz)) (F0 m pc ls [.int v]) := by
  have hlocks := C0.2.2.2.2.2.1
  exact W.widen hc hs (vx_ret (W.zret C0.1.1 C0.1.2.1 hr hn (fun t ht hW => ⟨⟨v, f, rfl, hp, G.1.to ht⟩, G.2.F ht⟩) G.2.2.2 hdg))
theorem g_vret (C0 : hC p l s m meth c cc nL args own D tys (hA f0 sz)) (G : hG D (hA f0 sz) f s H locs) {post : Hf → Prop} (hr : meth.sig.returnType = none) (hdg : decode cc pc = .ok (.return_, 1)) (hc : cells ≤ mc) (hs : slots ≤ ms) (hp : post f) :
    W p l e R s m args below meth c H locs cells slots (vx_MQ below (hQv post D f0 sz) XC args s mc ms (hA f0 sz)) (F0 m pc ls []) := by
  have hlocks := C0.2.2.2.2.2.1
  exact W.widen hc hs (vx_ret (W.vret C0.1.1 C0.1.2.1 hr (fun t ht hW => ⟨⟨f, rfl, hp, G.1.to ht⟩, G.2.F ht⟩) G.2.2.2 hdg))
theorem g_aret (C0 : hC p l s m meth c cc nL args own D tys (hA f0 sz)) (G : hG D (hA f0 sz) f s H locs) {post : Nat → Hf → Prop} {v : Nat} {n : String} (hr : meth.sig.returnType = some (.object n)) (hdg : decode cc pc = .ok (.areturn, 1)) (hc : cells ≤ mc) (hs : slots ≤ ms) (hp : post v f) :
    W p l e R s m args below meth c H locs cells slots (vx_MQ below (hQr post D f0 sz) XC args s mc ms (hA f0 sz)) (F0 m pc ls [.ref v]) := by
  have hlocks := C0.2.2.2.2.2.1
  exact W.widen hc hs (vx_ret (W.aret C0.1.1 C0.1.2.1 hr (Or.inl ⟨_, rfl⟩) (Or.inr ⟨_, rfl⟩) (fun t ht hW => ⟨⟨some v, f, rfl, ⟨v, rfl, hp⟩, G.1.to ht⟩, G.2.F ht⟩) G.2.2.2 hdg))
theorem g_fret (C0 : hC p l s m meth c cc nL args own D tys (hA f0 sz)) (G : hG D (hA f0 sz) f s H locs) {post : UInt32 → Hf → Prop} {v : UInt32} (hr : meth.sig.returnType = some .float) (hdg : decode cc pc = .ok (.freturn, 1)) (hc : cells ≤ mc) (hs : slots ≤ ms) (hp : post v f) :
    W p l e R s m args below meth c H locs cells slots (vx_MQ below (hQf post D f0 sz) XC args s mc ms (hA f0 sz)) (F0 m pc ls [.float v]) := by
  have hlocks := C0.2.2.2.2.2.1
  exact W.widen hc hs (vx_ret (W.fret C0.1.1 C0.1.2.1 hr (fun t ht hW => ⟨⟨v, f, rfl, hp, G.1.to ht⟩, G.2.F ht⟩) G.2.2.2 hdg))
theorem g_dret (C0 : hC p l s m meth c cc nL args own D tys (hA f0 sz)) (G : hG D (hA f0 sz) f s H locs) {post : UInt64 → Hf → Prop} {v : UInt64} (hr : meth.sig.returnType = some .double) (hdg : decode cc pc = .ok (.dreturn, 1)) (hc : cells ≤ mc) (hs : slots ≤ ms) (hp : post v f) :
    W p l e R s m args below meth c H locs cells slots (vx_MQ below (hQd post D f0 sz) XC args s mc ms (hA f0 sz)) (F0 m pc ls [.double v]) := by
  have hlocks := C0.2.2.2.2.2.1
  exact W.widen hc hs (vx_ret (W.dret C0.1.1 C0.1.2.1 hr (fun t ht hW => ⟨⟨v, f, rfl, hp, G.1.to ht⟩, G.2.F ht⟩) G.2.2.2 hdg))
/-- the callee's start out of the caller's point -/
theorem hW_of (C0 : hC p l s m meth c cc nL args own D tys A) (G : hG D A f s H locs) : ∀ U : State, U.heap = H → s.WarmedH U.vm → hW D tys f H.size U := by
  intro U hU hW
  obtain ⟨-, hK, hz, hv, hA1, -⟩ := C0
  have hsub : ∀ q, hA f H.size q → A q := by
    intro q h
    rcases h with h | h
    · cases hf : f q with
      | none => exact absurd hf h
      | some e0 => exact (G.1 q e0 hf).2
    · exact hA1 q (Nat.le_trans G.2.1 h)
  refine ⟨by rw [hU], fun a e h => ⟨by rw [hU]; exact (G.1 a e h).1, trivial⟩, va_K.moved hW.alike hK, ?_, hv.warm hW⟩
  rw [hU]
  exact ⟨vx_Zq.moved hW.alike ((hz.1.kept G.2.2.1).narrow hsub), vx_Zq.moved hW.alike ((hz.2.kept G.2.2.1).narrow hsub)⟩
theorem hA_sub (C0 : hC p l s m meth c cc nL args own D tys A) (G : hG D A f s H locs) : ∀ q, hA f H.size q → A q := by
  intro q h
  rcases h with h | h
  · cases hf : f q with
    | none => exact absurd hf h
    | some e0 => exact (G.1 q e0 hf).2
  · exact C0.2.2.2.2.1 q (Nat.le_trans G.2.1 h)
/-- what a callee's name needs of the tables -/
def hY (y : MethodName) (bytes : ByteArray) (maxL : Nat) (ret : Option FieldType) (n : Nat) : Prop :=
  Cond.code y bytes maxL ret ∈ lw_tbl ∧ Cond.initialized y.cls ∈ lw_tbl ∧ (y.cls ≠ "java/lang/invoke/MethodHandle" ∧ y.cls ≠ "java/lang/invoke/VarHandle") ∧ (parseMethodDescriptor y.desc).map (fun d => d.parameters.length) = some n
theorem hB_of (C0 : hC p l s m meth c cc nL args own D tys A) {y : MethodName} {bytes : ByteArray} {maxL n idx : Nat} {ret : Option FieldType} {rm : Room} (hy : hY y bytes maxL ret n) (hl : Cond.methodLink own idx y ∈ lw_tbl) (hR : rm.frames + 1 ≤ R.frames ∧ 8 + (maxL + 11) + rm.locals ≤ R.locals) : CallB R s args own idx y bytes maxL ret [.code y bytes maxL ret] rm rm.cells rm.slots n := by
  obtain ⟨h1, h2, h3, h4⟩ := hy
  have hv := C0.2.2.2.1
  refine ⟨rfl, rfl, hR.1, hR.2, fun w hw a' U hW => ?_, List.mem_cons_self, hv.1 _ h1 rfl _, hv.1 _ h2 rfl _, h3, fun sig h => ?_, hv.1 _ hl rfl _⟩
  · rcases List.mem_cons.mp hw with rfl | hw
    · exact hKind_at (args := args) hW rfl (hv.1 _ h1 rfl _)
    · cases hw
  · rw [h] at h4
    exact (Option.some.inj h4).symm
theorem hN_of (C0 : hC p l s m meth c cc nL args own D tys A) {y : MethodName} {bytes : ByteArray} {maxL n idx : Nat} {ret : Option FieldType} {rm : Room} {host : String} (hy : hY y bytes maxL ret n) (hl : Cond.methodLinkNest own idx y host ∈ lw_tbl) (hR : rm.frames + 1 ≤ R.frames ∧ 8 + (maxL + 11) + rm.locals ≤ R.locals) : va_CN R s args own idx y host bytes maxL ret [.code y bytes maxL ret] rm rm.cells rm.slots n := by
  obtain ⟨h1, h2, h3, h4⟩ := hy
  have hv := C0.2.2.2.1
  refine ⟨⟨rfl, rfl, hR.1, hR.2, fun w hw a' U hW => ?_, List.mem_cons_self⟩, hv.1 _ h1 rfl _, hv.1 _ h2 rfl _, h3, fun sig h => ?_, hv.1 _ hl rfl _⟩
  · rcases List.mem_cons.mp hw with rfl | hw
    · exact hKind_at (args := args) hW rfl (hv.1 _ h1 rfl _)
    · cases hw
  · rw [h] at h4
    exact (Option.some.inj h4).symm
variable {y : MethodName} {bytes : ByteArray} {maxL n idx b : Nat} {ret : Option FieldType} {rm : Room} {As : List Value} {Qc : Array Value → State → Outcome → State → Prop} {px : String → Hf → Prop}
theorem g_runV (C0 : hC p l s m meth c cc nL args own D tys A) (G : hG D A f s H locs) (hM : hMet l y bytes maxL ret rm D tys f H.size (.ref b :: As) Qc px) {ci : Nat} {fs : List Value} {T : u_T} {N : Nat} (he : f b = some (.inr (ci, fs))) (hcl : vwCl[ci]? = some (y.cls, T, N)) (hy : hY y bytes maxL ret n) (hl : Cond.methodLink own idx y ∈ lw_tbl) (hi : Cond.instanceMethod y ∈ lw_tbl) (hse : Cond.selects y.cls y y ∈ lw_tbl) (hR : rm.frames + 1 ≤ R.frames ∧ 8 + (maxL + 11) + rm.locals ≤ R.locals) (hn : As.length = n) (hsz : ls.size = nL) (hst : st0 = As.reverse ++ .ref b :: rest) (hW : (rest.map fun v => v.category).sum ≤ 8) (hdg : decode cc pc = .ok (.invokevirtual idx, 3)) (hf : cells + rm.cells ≤ R.cells ∧ slots + rm.slots ≤ R.slots) :
    vx_Run p l e R s m args below meth c H locs cells slots rm.cells rm.slots (F0 m pc ls st0) rest (Qc (Value.ref b :: As).toArray) (hPx px D f H.size) (hA f H.size) :=
  vx_runV C0.1 hM ⟨hB_of C0 hy hl hR, C0.2.2.2.1.1 _ hi rfl _, C0.2.2.2.1.1 _ hse rfl _⟩ ⟨hW_blind, va_recv C0.2.1 (hq_P G.1 he) hcl (q0 := 0) rfl, fun U hU hW => ⟨rfl, hW_of C0 G U hU hW⟩⟩ rfl hn hsz hst (lv_room hW) hdg hf
theorem g_runS (C0 : hC p l s m meth c cc nL args own D tys A) (G : hG D A f s H locs) (hM : hMet l y bytes maxL ret rm D tys f H.size As Qc px) (hy : hY y bytes maxL ret n) (hl : Cond.methodLink own idx y ∈ lw_tbl) (hi : Cond.static y ∈ lw_tbl) (hR : rm.frames + 1 ≤ R.frames ∧ 8 + (maxL + 11) + rm.locals ≤ R.locals) (hn : As.length = n) (hsz : ls.size = nL) (hst : st0 = As.reverse ++ rest) (hW : (rest.map fun v => v.category).sum ≤ 8) (hdg : decode cc pc = .ok (.invokestatic idx, 3)) (hf : cells + rm.cells ≤ R.cells ∧ slots + rm.slots ≤ R.slots) :
    vx_Run p l e R s m args below meth c H locs cells slots rm.cells rm.slots (F0 m pc ls st0) rest (Qc As.toArray) (hPx px D f H.size) (hA f H.size) :=
  vx_runS C0.1 hM ⟨hB_of C0 hy hl hR, C0.2.2.2.1.1 _ hi rfl _⟩ ⟨hW_blind, fun U hU hW => ⟨rfl, hW_of C0 G U hU hW⟩⟩ rfl hn hsz hst (lv_room hW) hdg hf
theorem g_runI (C0 : hC p l s m meth c cc nL args own D tys A) (G : hG D A f s H locs) (hM : hMet l y bytes maxL none rm D tys f H.size (.ref b :: As) Qc px) (hy : hY y bytes maxL none n) (hl : Cond.methodLink own idx y ∈ lw_tbl) (hi : Cond.instanceMethod y ∈ lw_tbl) (hin : y.name = "<init>") (hR : rm.frames + 1 ≤ R.frames ∧ 8 + (maxL + 11) + rm.locals ≤ R.locals) (hn : As.length = n) (hsz : ls.size = nL) (hst : st0 = As.reverse ++ .ref b :: rest) (hW : (rest.map fun v => v.category).sum ≤ 8) (hdg : decode cc pc = .ok (.invokespecial idx, 3)) (hf : cells + rm.cells ≤ R.cells ∧ slots + rm.slots ≤ R.slots) :
    vx_Run p l e R s m args below meth c H locs cells slots rm.cells rm.slots (F0 m pc ls st0) rest (Qc (Value.ref b :: As).toArray) (hPx px D f H.size) (hA f H.size) :=
  vx_runI C0.1 hM ⟨hB_of C0 hy hl hR, hin, C0.2.2.2.1.1 _ hi rfl _⟩ ⟨hW_blind, fun U hU hW => ⟨rfl, hW_of C0 G U hU hW⟩⟩ rfl hn hsz hst (lv_room hW) hdg hf
theorem g_runIN (C0 : hC p l s m meth c cc nL args own D tys A) (G : hG D A f s H locs) (hM : hMet l y bytes maxL none rm D tys f H.size (.ref b :: As) Qc px) (hy : hY y bytes maxL none n) {host : String} (hl : Cond.methodLinkNest own idx y host ∈ lw_tbl) (hi : Cond.instanceMethod y ∈ lw_tbl) (hin : y.name = "<init>") (hR : rm.frames + 1 ≤ R.frames ∧ 8 + (maxL + 11) + rm.locals ≤ R.locals) (hn : As.length = n) (hsz : ls.size = nL) (hst : st0 = As.reverse ++ .ref b :: rest) (hW : (rest.map fun v => v.category).sum ≤ 8) (hdg : decode cc pc = .ok (.invokespecial idx, 3)) (hf : cells + rm.cells ≤ R.cells ∧ slots + rm.slots ≤ R.slots) :
    vx_Run p l e R s m args below meth c H locs cells slots rm.cells rm.slots (F0 m pc ls st0) rest (Qc (Value.ref b :: As).toArray) (hPx px D f H.size) (hA f H.size) :=
  vx_runIN C0.1 hM ⟨hN_of C0 hy hl hR, hin, C0.2.2.2.1.1 _ hi rfl _⟩ ⟨hW_blind, fun U hU hW => ⟨rfl, hW_of C0 G U hU hW⟩⟩ rfl hn hsz hst (lv_room hW) hdg hf
theorem g_runSN (C0 : hC p l s m meth c cc nL args own D tys A) (G : hG D A f s H locs) (hM : hMet l y bytes maxL ret rm D tys f H.size As Qc px) (hy : hY y bytes maxL ret n) {host : String} (hl : Cond.methodLinkNest own idx y host ∈ lw_tbl) (hi : Cond.static y ∈ lw_tbl) (hR : rm.frames + 1 ≤ R.frames ∧ 8 + (maxL + 11) + rm.locals ≤ R.locals) (hn : As.length = n) (hsz : ls.size = nL) (hst : st0 = As.reverse ++ rest) (hW : (rest.map fun v => v.category).sum ≤ 8) (hdg : decode cc pc = .ok (.invokestatic idx, 3)) (hf : cells + rm.cells ≤ R.cells ∧ slots + rm.slots ≤ R.slots) :
    vx_Run p l e R s m args below meth c H locs cells slots rm.cells rm.slots (F0 m pc ls st0) rest (Qc As.toArray) (hPx px D f H.size) (hA f H.size) :=
  vx_runSN C0.1 hM ⟨hN_of C0 hy hl hR, C0.2.2.2.1.1 _ hi rfl _, trivial⟩ ⟨hW_blind, fun U hU hW => ⟨rfl, hW_of C0 G U hU hW⟩⟩ rfl hn hsz hst (lv_room hW) hdg hf
variable {av : Array Value}
theorem g_cI {post : Int32 → Hf → Prop} (C0 : hC p l s m meth c cc nL args own D tys A) (G : hG D A f s H locs) (hr : vx_Run p l e R s m args below meth c H locs cells slots mc ms (F0 m pc ls st0) rest (hQi post D f H.size av) (hPx px D f H.size) (hA f H.size))
    (kx : ∀ (E : String) (ce : Cell) (q9 : Addr) (u : Hf) (H1 : Heap) (locs1 : List Loc), px E u → hG D A u s H1 locs1 → H1[q9]? = some ce → ce.vm = .none → s.vm.findClass E = some ce.cls → vx_W p l e R s m args below meth c H1 locs1 (cells + mc) (slots + ms) Q (F0 m pc ls rest) q9)
    (kk : ∀ (r : Int32) (u : Hf) (H1 : Heap) (locs1 : List Loc), post r u → hG D A u s H1 locs1 → W p l e R s m args below meth c H1 locs1 (cells + mc) (slots + ms) Q (F0 m (pc + 3) ls (.int r :: rest))) : W p l e R s m args below meth c H locs cells slots Q (F0 m pc ls st0) :=
  vx_calli hr G.2 (fun q _ h => hA_sub C0 G q h) (hA_sub C0 G) (fun q _ h => hA_sub C0 G q h)
    (fun E ce q9 u t H1 locs1 ht _ hp hb _ _ hS hce hcv hcl => by obtain ⟨rfl, hb⟩ := hb; exact kx _ ce q9 u.2 H1 locs1 hp ⟨by rw [← ht]; exact hb.weaken (hA_sub C0 G), hS⟩ hce hcv hcl)
    (fun r u t H1 locs1 ht _ hp hb _ _ hS => kk r u H1 locs1 hp ⟨by rw [← ht]; exact hq.weaken hb (hA_sub C0 G), hS⟩)
theorem g_cV {post : Hf → Prop} (C0 : hC p l s m meth c cc nL args own D tys A) (G : hG D A f s H locs) (hr : vx_Run p l e R s m args below meth c H locs cells slots mc ms (F0 m pc ls st0) rest (hQv post D f H.size av) (hPx px D f H.size) (hA f H.size))
    (kx : ∀ (E : String) (ce : Cell) (q9 : Addr) (u : Hf) (H1 : Heap) (locs1 : List Loc), px E u → hG D A u s H1 locs1 → H1[q9]? = some ce → ce.vm = .none → s.vm.findClass E = some ce.cls → vx_W p l e R s m args below meth c H1 locs1 (cells + mc) (slots + ms) Q (F0 m pc ls rest) q9)
    (kk : ∀ (u : Hf) (H1 : Heap) (locs1 : List Loc), post u → hG D A u s H1 locs1 → W p l e R s m args below meth c H1 locs1 (cells + mc) (slots + ms) Q (F0 m (pc + 3) ls rest)) : W p l e R s m args below meth c H locs cells slots Q (F0 m pc ls st0) :=
  vx_callv hr G.2 (fun q _ h => hA_sub C0 G q h) (hA_sub C0 G) (fun q _ h => hA_sub C0 G q h)
    (fun E ce q9 u t H1 locs1 ht _ hp hb _ _ hS hce hcv hcl => by obtain ⟨rfl, hb⟩ := hb; exact kx _ ce q9 u.2 H1 locs1 hp ⟨by rw [← ht]; exact hb.weaken (hA_sub C0 G), hS⟩ hce hcv hcl)
    (fun u t H1 locs1 ht _ hp hb _ _ hS => kk u H1 locs1 hp ⟨by rw [← ht]; exact hq.weaken hb (hA_sub C0 G), hS⟩)
theorem g_cR {post : Nat → Hf → Prop} (C0 : hC p l s m meth c cc nL args own D tys A) (G : hG D A f s H locs) (hr : vx_Run p l e R s m args below meth c H locs cells slots mc ms (F0 m pc ls st0) rest (hQr post D f H.size av) (hPx px D f H.size) (hA f H.size))
    (kx : ∀ (E : String) (ce : Cell) (q9 : Addr) (u : Hf) (H1 : Heap) (locs1 : List Loc), px E u → hG D A u s H1 locs1 → H1[q9]? = some ce → ce.vm = .none → s.vm.findClass E = some ce.cls → vx_W p l e R s m args below meth c H1 locs1 (cells + mc) (slots + ms) Q (F0 m pc ls rest) q9)
    (kk : ∀ (r : Nat) (u : Hf) (H1 : Heap) (locs1 : List Loc), post r u → hG D A u s H1 locs1 → W p l e R s m args below meth c H1 locs1 (cells + mc) (slots + ms) Q (F0 m (pc + 3) ls (.ref r :: rest))) : W p l e R s m args below meth c H locs cells slots Q (F0 m pc ls st0) :=
  vx_callq hr G.2 (fun q _ h => hA_sub C0 G q h) (hA_sub C0 G) (fun q _ h => hA_sub C0 G q h)
    (fun E ce q9 u t H1 locs1 ht _ hp hb _ _ hS hce hcv hcl => by obtain ⟨rfl, hb⟩ := hb; exact kx _ ce q9 u.2 H1 locs1 hp ⟨by rw [← ht]; exact hb.weaken (hA_sub C0 G), hS⟩ hce hcv hcl)
    (fun r u t H1 locs1 ht _ hp hb _ _ hS => by obtain ⟨a9, rfl, hp⟩ := hp; exact kk a9 u H1 locs1 hp ⟨by rw [← ht]; exact hq.weaken hb (hA_sub C0 G), hS⟩)
/-- nothing comes here: the callee doesn't throw -/
theorem kx_no {pxx : String → Hf → Prop} (h : pxx = hNo) : ∀ (E : String) (ce : Cell) (q9 : Addr) (u : Hf) (H1 : Heap) (locs1 : List Loc), pxx E u → hG D A u s H1 locs1 → H1[q9]? = some ce → ce.vm = .none → s.vm.findClass E = some ce.cls → vx_W p l e R s m args below meth c H1 locs1 (cells + mc) (slots + ms) Q (F0 m pc ls rest) q9 := by
  subst h
  intro E ce q9 u H1 locs1 h
  exact h.elim
/-- an exception that came goes on to the caller -/
theorem kx_out (C0 : hC p l s m meth c cc nL args own D tys (hA f0 sz)) {px1 px2 : String → Hf → Prop} {mc9 ms9 : Nat} (hc : cells + mc ≤ mc9) (hs : slots + ms ≤ ms9) (hp : ∀ E u, px1 E u → px2 E u) (ho9 : own ≠ "WicketScorerLaw" := by decide) : ∀ (E : String) (ce : Cell) (q9 : Addr) (u : Hf) (H1 : Heap) (locs1 : List Loc), px1 E u → hG D (hA f0 sz) u s H1 locs1 → H1[q9]? = some ce → ce.vm = .none → s.vm.findClass E = some ce.cls → vx_W p l e R s m args below meth c H1 locs1 (cells + mc) (slots + ms) (vx_MQ below Qc (hPx px2 D f0 sz) args s mc9 ms9 (hA f0 sz)) (F0 m pc ls rest) q9 := by
  intro E ce q9 u H1 locs1 h1 G1 hce hcv hcl
  exact vx_out (fun x hx => (C0.2.2.2.2.2.2.2 ho9 x hx).elim) C0.2.2.2.2.2.1 hce hcv hcl (fun t ht _ => ⟨(E, u), hp E u h1, ⟨rfl, G1.1.to ht⟩, G1.2.F ht⟩) G1.2.2.2 hc hs
theorem g_throw (C0 : hC p l s m meth c cc nL args RX8 D tys (hA f0 sz)) (G : hG D (hA f0 sz) f s H locs) {X text : String} {ik is ic : Nat} (hX : Bundle.fit X = true) (hk : Cond.classLink RX8 ik X ∈ lw_tbl) (hini : Cond.initialized X ∈ lw_tbl) (hstr : (is, text) ∈ hStr) (hat : ∀ w ∈ vx_atS RX8 ic X ["java/lang/RuntimeException", "java/lang/Exception"], w ∈ lw_tbl ∧ hKind w = true ∧ vx_ot w = true) (hsize : ls.size = nL)
    (d0 : decode cc pc = .ok (.new ik, 3)) (d3 : decode cc (pc + 3) = .ok (.dup, 1)) (d4 : decode cc (pc + 4) = .ok (.ldc is, 2)) (d6 : decode cc (pc + 6) = .ok (.invokespecial ic, 3)) (d9 : decode cc (pc + 9) = .ok (.athrow, 1))
    (hR : 5 < R.frames ∧ (rest.map fun v => v.category).sum + 82 ≤ R.locals) (hRc : cells + 1 ≤ R.cells ∧ slots + 6 ≤ R.slots) (hc : cells + 1 ≤ mc) (hs : slots + 6 ≤ ms) (hp : px X f) :
    W p l e R s m args below meth c H locs cells slots (vx_MQ below Qc (hPx px D f0 sz) args s mc ms (hA f0 sz)) (F0 m pc ls rest) := by
  have hv := C0.2.2.2.1
  obtain ⟨sa, hsa⟩ := hv.2.1 _ hstr
  refine vx_throwS C0.1.1 C0.1.2.1 C0.2.2.2.2.2.2.1 (names := ["java/lang/RuntimeException", "java/lang/Exception"]) C0.1.2.2.2.1 hX (by decide) (hv.1 _ hk rfl _) (hv.1 _ hini rfl _) hsa (fun w hw => hv.1 _ (hat w hw).1 (hat w hw).2.1 _) ?_ C0.2.2.1.1 C0.2.2.1.2 G.2 (hsize.trans C0.1.2.2.1.symm) d0 d3 d4 d6 d9 (fun x hx => (C0.2.2.2.2.2.2.2 (by decide) x hx).elim) hR.1 hR.2 hRc.1 hRc.2 C0.2.2.2.2.2.1 ?_ G.2.2.2 hc hs
  · intro w hw
    rcases List.mem_cons.mp hw with rfl | hw
    · rfl
    · rcases List.mem_cons.mp hw with rfl | hw
      · rfl
      · exact (hat w hw).2.2
  · intro t _ h1 h2
    refine ⟨(X, f), hp, ⟨rfl, fun a e h => ⟨(G.1 a e h).1.kept (h2 a (G.1 a e h).1.lt), (G.1 a e h).2⟩⟩, Nat.le_trans G.2.1 h1, fun q hq hn => ?_⟩
    rw [h2 q (Nat.lt_of_lt_of_le hq G.2.1)]
    exact G.2.2.1 q hq hn
theorem g_throwW (C0 : hC p l s m meth c cc nL args RX8 D tys (hA f0 sz)) (G : hG D (hA f0 sz) f s H locs) {X text : String} {ik is ic : Nat} (hX : Bundle.fit X = true) (hk : Cond.classLink RX8 ik X ∈ lw_tbl) (hini : Cond.initialized X ∈ lw_tbl) (hstr : (is, text) ∈ hStr) (hat : ∀ w ∈ vx_atS RX8 ic X ["java/lang/RuntimeException", "java/lang/Exception"], w ∈ lw_tbl ∧ hKind w = true ∧ vx_ot w = true) (hsize : ls.size = nL)
    (d0 : decode cc pc = .ok (.new ik, 3)) (d3 : decode cc (pc + 3) = .ok (.dup, 1)) (d4 : decode cc (pc + 4) = .ok (.ldc_w is, 3)) (d6 : decode cc (pc + 7) = .ok (.invokespecial ic, 3)) (d9 : decode cc (pc + 10) = .ok (.athrow, 1))
    (hR : 5 < R.frames ∧ (rest.map fun v => v.category).sum + 82 ≤ R.locals) (hRc : cells + 1 ≤ R.cells ∧ slots + 6 ≤ R.slots) (hc : cells + 1 ≤ mc) (hs : slots + 6 ≤ ms) (hp : px X f) :
    W p l e R s m args below meth c H locs cells slots (vx_MQ below Qc (hPx px D f0 sz) args s mc ms (hA f0 sz)) (F0 m pc ls rest) := by
  have hv := C0.2.2.2.1
  obtain ⟨sa, hsa⟩ := hv.2.1 _ hstr
  refine vx_throwSW C0.1.1 C0.1.2.1 C0.2.2.2.2.2.2.1 (names := ["java/lang/RuntimeException", "java/lang/Exception"]) C0.1.2.2.2.1 hX (by decide) (hv.1 _ hk rfl _) (hv.1 _ hini rfl _) hsa (fun w hw => hv.1 _ (hat w hw).1 (hat w hw).2.1 _) ?_ C0.2.2.1.1 C0.2.2.1.2 G.2 (hsize.trans C0.1.2.2.1.symm) d0 d3 d4 d6 d9 (fun x hx => (C0.2.2.2.2.2.2.2 (by decide) x hx).elim) hR.1 hR.2 hRc.1 hRc.2 C0.2.2.2.2.2.1 ?_ G.2.2.2 hc hs
  · intro w hw
    rcases List.mem_cons.mp hw with rfl | hw
    · rfl
    · rcases List.mem_cons.mp hw with rfl | hw
      · rfl
      · exact (hat w hw).2.2
  · intro t _ h1 h2
    refine ⟨(X, f), hp, ⟨rfl, fun a e h => ⟨(G.1 a e h).1.kept (h2 a (G.1 a e h).1.lt), (G.1 a e h).2⟩⟩, Nat.le_trans G.2.1 h1, fun q hq hn => ?_⟩
    rw [h2 q (Nat.lt_of_lt_of_le hq G.2.1)]
    exact G.2.2.1 q hq hn
end HC
