/-! the law's own methods: static, with handlers -/
theorem mca_IAE : Cond.castable "java/lang/IllegalArgumentException" "java/lang/IllegalArgumentException" ∈ lw_tbl := hin2 (List.mem_of_getElem? (i := 170) rfl)
theorem mca_IOB : Cond.castable "java/lang/IndexOutOfBoundsException" "java/lang/IndexOutOfBoundsException" ∈ lw_tbl := hin3 (List.mem_of_getElem? (i := 216) rfl)
theorem mca_ISE : Cond.castable "java/lang/IllegalStateException" "java/lang/IllegalStateException" ∈ lw_tbl := hin4 (List.mem_of_getElem? (i := 23) rfl)
theorem mca_UOE : Cond.castable "java/lang/UnsupportedOperationException" "java/lang/UnsupportedOperationException" ∈ lw_tbl := hin4 (List.mem_of_getElem? (i := 129) rfl)
theorem mca_NSE : Cond.castable "java/util/NoSuchElementException" "java/util/NoSuchElementException" ∈ lw_tbl := hin4 (List.mem_of_getElem? (i := 217) rfl)
theorem mca_ARE : Cond.castable "java/lang/ArithmeticException" "java/lang/ArithmeticException" ∈ lw_tbl := hin5 (List.mem_of_getElem? (i := 109) rfl)
abbrev hMetH (l : Launch) (y : MethodName) (cc : ByteArray) (nL : Nat) (ret : Option FieldType) (hh : List (Nat × Nat × Nat × Nat)) (rm : Room) (D : va_G) (tys : List (ClassId × FieldType)) (f : Hf) (sz : Nat) (av : List Value) (Qc : Array Value → State → Outcome → State → Prop) (px : String → Hf → Prop) : Prop :=
  vx_Met l y [.codeWith y cc nL ret hh] rm (va_Pc av (hW D tys f sz)) Qc (hPx px D f sz) rm.cells rm.slots (hA f sz)
theorem h_enterH {l : Launch} {y : MethodName} {cc : ByteArray} {nL : Nat} {ret : Option FieldType} {hh : List (Nat × Nat × Nat × Nat)} {rm : Room} {D : va_G} {tys : List (ClassId × FieldType)} {f : Hf} {sz : Nat} {av : List Value} {Qc : Array Value → State → Outcome → State → Prop} {px : String → Hf → Prop}
    (hy : plainName y.cls = true) (hy9 : y.cls = "WicketScorerLaw") (hfl : l.stackTraces = false) (hlen : (lg_sl av).length ≤ nL)
    (body : ∀ p e s m below meth c, s.heap.size = sz → c.exceptionTable.toList = tableOf hh → hC p l s m meth c cc nL av.toArray y.cls D tys (hA f sz) → meth.sig.returnType = ret → meth.name = y.name → hG D (hA f sz) f s s.heap [] → ∀ ls, lv_has ls nL (lv_args 0 av) → W p l e rm s m av.toArray below meth c s.heap [] 0 0 (vx_MQ below Qc (hPx px D f sz) av.toArray s rm.cells rm.slots (hA f sz)) (F0 m 0 ls [])) :
    hMetH l y cc nL ret hh rm D tys f sz av Qc px := by
  refine vx_ofWH (cc := cc) (maxL := nL) (ret := ret) hy rfl ?_
  intro p e s m args below meth c s₁ B hml hv
  have het := vx_table (x := y) B (atoms_spec B.pre _ List.mem_cons_self)
  obtain ⟨rfl, hsz, hP, hK, hz, hv⟩ := hv
  subst hsz
  have hl := lv_entry av (n := nL) hlen
  rw [lg_entry_eq]
  refine body p e s m below meth c rfl het ⟨⟨B.exec, B.bytes, hml, findClass_of_methodNamed B.named, fun w hw => hv.1 w (List.mem_filter.mp hw).1 (List.mem_filter.mp hw).2 _⟩, hK, hz, hv, fun q h => Or.inr h, B.notSynchronized, hfl, fun q => absurd hy9 q⟩ B.returns (name_of_methodNamed B.named B.method).1 ⟨fun a e h => ⟨(hP a e h).1, Or.inl (by rw [h]; exact fun q => by cases q)⟩, va_S.rf⟩ _ hl
def hYH (y : MethodName) (bytes : ByteArray) (maxL : Nat) (ret : Option FieldType) (hh : List (Nat × Nat × Nat × Nat)) (n : Nat) : Prop :=
  Cond.codeWith y bytes maxL ret hh ∈ lw_tbl ∧ Cond.initialized y.cls ∈ lw_tbl ∧ (y.cls ≠ "java/lang/invoke/MethodHandle" ∧ y.cls ≠ "java/lang/invoke/VarHandle") ∧ (parseMethodDescriptor y.desc).map (fun d => d.parameters.length) = some n
section HL
variable {p : Program} {l : Launch} {e : Env} {R : Room} {s : State} {m : MethodId} {args : Array Value} {below : List Frame} {meth : Method} {c : Code} {H : Heap} {locs : List Loc} {cells slots mc ms : Nat} {Q : State → Prop}
variable {cc : ByteArray} {nL pc sz : Nat} {ls : Array Slot} {rest st0 : List Value} {D : va_G} {A : Nat → Prop} {a : Nat} {tys : List (ClassId × FieldType)} {f f0 : Hf} {own : String} {XC : String → State → State → Prop}
variable {y : MethodName} {bytes : ByteArray} {maxL n idx b : Nat} {ret : Option FieldType} {rm : Room} {As : List Value} {Qc : Array Value → State → Outcome → State → Prop} {px : String → Hf → Prop} {hh : List (Nat × Nat × Nat × Nat)}
variable {av : Array Value}
theorem g_cF {post : UInt32 → Hf → Prop} (C0 : hC p l s m meth c cc nL args own D tys A) (G : hG D A f s H locs) (hr : vx_Run p l e R s m args below meth c H locs cells slots mc ms (F0 m pc ls st0) rest (hQf post D f H.size av) (hPx px D f H.size) (hA f H.size))
    (kx : ∀ (E : String) (ce : Cell) (q9 : Addr) (u : Hf) (H1 : Heap) (locs1 : List Loc), px E u → hG D A u s H1 locs1 → H1[q9]? = some ce → ce.vm = .none → s.vm.findClass E = some ce.cls → vx_W p l e R s m args below meth c H1 locs1 (cells + mc) (slots + ms) Q (F0 m pc ls rest) q9)
    (kk : ∀ (r : UInt32) (u : Hf) (H1 : Heap) (locs1 : List Loc), post r u → hG D A u s H1 locs1 → W p l e R s m args below meth c H1 locs1 (cells + mc) (slots + ms) Q (F0 m (pc + 3) ls (.float r :: rest))) : W p l e R s m args below meth c H locs cells slots Q (F0 m pc ls st0) :=
  vx_callf hr G.2 (fun q _ h => hA_sub C0 G q h) (hA_sub C0 G) (fun q _ h => hA_sub C0 G q h)
    (fun E ce q9 u t H1 locs1 ht _ hp hb _ _ hS hce hcv hcl => by obtain ⟨rfl, hb⟩ := hb; exact kx _ ce q9 u.2 H1 locs1 hp ⟨by rw [← ht]; exact hb.weaken (hA_sub C0 G), hS⟩ hce hcv hcl)
    (fun r u t H1 locs1 ht _ hp hb _ _ hS => kk r u H1 locs1 hp ⟨by rw [← ht]; exact hq.weaken hb (hA_sub C0 G), hS⟩)
theorem g_cD {post : UInt64 → Hf → Prop} (C0 : hC p l s m meth c cc nL args own D tys A) (G : hG D A f s H locs) (hr : vx_Run p l e R s m args below meth c H locs cells slots mc ms (F0 m pc ls st0) rest (hQd post D f H.size av) (hPx px D f H.size) (hA f H.size))
    (kx : ∀ (E : String) (ce : Cell) (q9 : Addr) (u : Hf) (H1 : Heap) (locs1 : List Loc), px E u → hG D A u s H1 locs1 → H1[q9]? = some ce → ce.vm = .none → s.vm.findClass E = some ce.cls → vx_W p l e R s m args below meth c H1 locs1 (cells + mc) (slots + ms) Q (F0 m pc ls rest) q9)
    (kk : ∀ (r : UInt64) (u : Hf) (H1 : Heap) (locs1 : List Loc), post r u → hG D A u s H1 locs1 → W p l e R s m args below meth c H1 locs1 (cells + mc) (slots + ms) Q (F0 m (pc + 3) ls (.double r :: rest))) : W p l e R s m args below meth c H locs cells slots Q (F0 m pc ls st0) :=
  vx_calld hr G.2 (fun q _ h => hA_sub C0 G q h) (hA_sub C0 G) (fun q _ h => hA_sub C0 G q h)
    (fun E ce q9 u t H1 locs1 ht _ hp hb _ _ hS hce hcv hcl => by obtain ⟨rfl, hb⟩ := hb; exact kx _ ce q9 u.2 H1 locs1 hp ⟨by rw [← ht]; exact hb.weaken (hA_sub C0 G), hS⟩ hce hcv hcl)
    (fun r u t H1 locs1 ht _ hp hb _ _ hS => kk r u H1 locs1 hp ⟨by rw [← ht]; exact hq.weaken hb (hA_sub C0 G), hS⟩)
theorem g_runSH (C0 : hC p l s m meth c cc nL args own D tys A) (G : hG D A f s H locs) (hM : hMetH l y bytes maxL ret hh rm D tys f H.size As Qc px) (hy : hYH y bytes maxL ret hh n) (hl : Cond.methodLink own idx y ∈ lw_tbl) (hi : Cond.static y ∈ lw_tbl) (hR : rm.frames + 1 ≤ R.frames ∧ 8 + (maxL + 11) + rm.locals ≤ R.locals) (hn : As.length = n) (hsz : ls.size = nL) (hst : st0 = As.reverse ++ rest) (hW : (rest.map fun v => v.category).sum ≤ 8) (hdg : decode cc pc = .ok (.invokestatic idx, 3)) (hf : cells + rm.cells ≤ R.cells ∧ slots + rm.slots ≤ R.slots) :
    vx_Run p l e R s m args below meth c H locs cells slots rm.cells rm.slots (F0 m pc ls st0) rest (Qc As.toArray) (hPx px D f H.size) (hA f H.size) := by
  obtain ⟨h1, h2, h3, h4⟩ := hy
  have hv := C0.2.2.2.1
  refine vx_runSX C0.1 hM ⟨⟨rfl, rfl, hR.1, hR.2, fun w hw a' U hW => ?_, List.mem_cons_self⟩, hv.1 _ h1 rfl _, hv.1 _ h2 rfl _, h3, fun sig h => ?_, hv.1 _ hl rfl _, hv.1 _ hi rfl _⟩ ⟨hW_blind, fun U hU hW => ⟨rfl, hW_of C0 G U hU hW⟩⟩ rfl hn hsz hst (lv_room hW) hdg hf
  · rcases List.mem_cons.mp hw with rfl | hw
    · exact hKind_at (args := args) hW rfl (hv.1 _ h1 rfl _)
    · cases hw
  · rw [h] at h4
    exact (Option.some.inj h4).symm
/-- caught by the row x of the table; the rows ahead name other classes -/
theorem g_catch (C0 : hC p l s m meth c cc nL args RL D tys A) (hT : c.exceptionTable.toList = tableOf hh) (pre suf : List (Nat × Nat × Nat × Nat)) (x : Nat × Nat × Nat × Nat) (hs : hh = pre ++ x :: suf) {E nm : String} {ce : Cell} {q : Addr} (hpass : ∀ z ∈ pre, z.2.2.2 ≠ 0 ∧ ∃ n9 : String, Cond.classLink RL z.2.2.2 n9 ∈ lw_tbl ∧ (E, n9) ∈ hNcs) (hx : covers ⟨x.1, x.2.1, x.2.2.1, x.2.2.2⟩ pc = true) (h0 : x.2.2.2 ≠ 0)
    (hlink : Cond.classLink RL x.2.2.2 nm ∈ lw_tbl) (hcast : Cond.castable E nm ∈ lw_tbl) (hcell : H[q]? = some ce) (hcv : ce.vm = .none) (hcl : s.vm.findClass E = some ce.cls)
    (kk : W p l e R s m args below meth c H locs cells slots Q (F0 m x.2.2.1 ls [.ref q])) : vx_W p l e R s m args below meth c H locs cells slots Q (F0 m pc ls rest) q := by
  have hv := C0.2.2.2.1
  refine vx_catch (own := RL) (name := nm) C0.1.2.2.2.1 (tableOf pre) ⟨x.1, x.2.1, x.2.2.1, x.2.2.2⟩ (tableOf suf) (by rw [hT, hs]; simp [tableOf]) ?_ hx h0 (hv.1 _ hlink rfl _) (hv.1 _ hcast rfl _) hcell hcv hcl kk
  intro z hz
  obtain ⟨w, hw, rfl⟩ := List.mem_map.mp hz
  obtain ⟨h1, n9, h2, h3⟩ := hpass w hw
  exact Or.inr ⟨h1, n9, hv.1 _ h2 rfl _, hv.2.2.1 _ h3⟩
end HL
