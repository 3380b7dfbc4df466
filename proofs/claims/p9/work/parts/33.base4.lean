/-! numbers for the walks: tables' cells -/
theorem hupid {f : Hf} {a : Nat} {e : va_E} (h : f a = some e) : va_up f a (some e) = f := by
  funext b
  by_cases hb : b = a
  · subst hb; rw [va_up_self, h]
  · rw [va_up_ne _ _ hb]
theorem hup4 {f : Hf} {t c : Nat} {a b a' b' : Option va_E} (h : t ≠ c) : va_up (va_up (va_up (va_up f t a) c b) t a') c b' = va_up (va_up f t a') c b' := by
  funext x
  by_cases hc : x = c
  · subst hc; simp [va_up_self]
  · by_cases ht : x = t
    · subst ht; simp [va_up, hc]
    · simp [va_up, hc, ht]
theorem hup2 {f : Hf} {c : Nat} {a b : Option va_E} : va_up (va_up f c a) c b = va_up f c b := by
  funext x
  by_cases hc : x = c
  · subst hc; simp [va_up_self]
  · simp [va_up, hc]
abbrev tIn (cols rows : Int32) (n : Nat) (row col : Int32) : Prop := 0 ≤ row ∧ row < rows ∧ 0 ≤ col ∧ col < cols ∧ 0 ≤ row * cols + col ∧ row * cols + col < Int32.ofNat n
def tget (cols rows : Int32) (n : Nat) (g : Nat → Int32) (row col : Int32) : Int32 := if tIn cols rows n row col then g (row * cols + col).toNatClampNeg else 0
def tset (cols rows : Int32) (n : Nat) (g : Nat → Int32) (row col x : Int32) : Nat → Int32 := if tIn cols rows n row col then upd g (row * cols + col).toNatClampNeg x else g
def tinc (cols rows : Int32) (n : Nat) (g : Nat → Int32) (row col x : Int32) : Nat → Int32 := if tIn cols rows n row col then upd g (row * cols + col).toNatClampNeg (g (row * cols + col).toNatClampNeg + x) else g
/-- zeros from a to b -/
def zf (g : Nat → Int32) (a b : Nat) : Nat → Int32 := fun k => if a ≤ k ∧ k < b then 0 else g k
theorem zf_0 (g : Nat → Int32) (a : Nat) : zf g a a = g := by funext k; simp [zf]; omega
theorem zf_s (g : Nat → Int32) {a b : Nat} (h : a ≤ b) : upd (zf g a b) b 0 = zf g a (b + 1) := by
  funext k
  by_cases hk : k = b
  · subst hk; simp [upd, zf]; omega
  · simp only [upd, zf, if_neg hk]
    by_cases h2 : a ≤ k ∧ k < b
    · rw [if_pos h2, if_pos (by omega)]
    · rw [if_neg h2, if_neg (by omega)]
theorem zf_j (g : Nat → Int32) {a b c : Nat} (h1 : a ≤ b) (h2 : b ≤ c) : zf (zf g a b) b c = zf g a c := by
  funext k
  simp only [zf]
  by_cases q1 : b ≤ k ∧ k < c
  · rw [if_pos q1, if_pos (by omega)]
  · rw [if_neg q1]
    by_cases q2 : a ≤ k ∧ k < b
    · rw [if_pos q2, if_pos (by omega)]
    · rw [if_neg q2, if_neg (by omega)]
theorem nI_c {a : Nat} (h : a < 2147483648) : (nI a).toNatClampNeg = a := nI_clamp (by omega)
theorem hmaxs : Cond.static Lib.Math.max.name ∈ lw_tbl := ms_J9_max_7cf53
theorem hmins : Cond.static Lib.Math.min.name ∈ lw_tbl := ms_J9_min_7cf53
theorem hmaxc : Cond.code Lib.Math.max.name Lib.Math.max.code 2 (some .int) ∈ lw_tbl := hin1 (List.mem_of_getElem? (i := 53) (by decide +kernel))
theorem hminc : Cond.code Lib.Math.min.name Lib.Math.min.code 2 (some .int) ∈ lw_tbl := hin2 (List.mem_of_getElem? (i := 126) (by decide +kernel))
section GM
variable {p : Program} {l : Launch} {e : Env} {R : Room} {s : State} {m : MethodId} {args : Array Value} {below : List Frame} {meth : Method} {c : Code} {H : Heap} {locs : List Loc} {cells slots : Nat} {Q : State → Prop}
variable {cc : ByteArray} {nL pc : Nat} {ls : Array Slot} {rest st0 : List Value} {D : va_G} {A : Nat → Prop} {a : Nat} {tys : List (ClassId × FieldType)} {f : Hf} {own : String}
theorem lv_topv {x v : Int32} (h : x = v) (k : W p l e R s m args below meth c H locs cells slots Q (F0 m pc ls (.int v :: rest))) : W p l e R s m args below meth c H locs cells slots Q (F0 m pc ls (.int x :: rest)) := h ▸ k
theorem g_max (C0 : hC p l s m meth c cc nL args own D tys A) {idx : Nat} (hl : Cond.methodLink own idx Lib.Math.max.name ∈ lw_tbl) (hsz : ls.size = nL) (hf : 1 ≤ R.frames) (hlo : (rest.map fun v => v.category).sum + 13 ≤ R.locals) (hc : cells ≤ R.cells ∧ slots ≤ R.slots) {x y : Int32} (hdg : decode cc pc = .ok (.invokestatic idx, 3))
    (kk : W p l e R s m args below meth c H locs cells slots Q (F0 m (pc + 3) ls (.int (if x < y then y else x) :: rest))) : W p l e R s m args below meth c H locs cells slots Q (F0 m pc ls (.int y :: .int x :: rest)) :=
  va_mmax C0.1.1 C0.1.2.1 (C0.1.2.2.1.trans hsz.symm) C0.1.2.2.2.1 (C0.2.2.2.1.1 _ hl rfl _) (C0.2.2.2.1.1 _ hmaxs rfl _) (C0.2.2.2.1.1 _ mz_J9 rfl _) (C0.2.2.2.1.1 _ hmaxc rfl _) hf hlo hc.1 hc.2 hdg kk
theorem g_min (C0 : hC p l s m meth c cc nL args own D tys A) {idx : Nat} (hl : Cond.methodLink own idx Lib.Math.min.name ∈ lw_tbl) (hsz : ls.size = nL) (hf : 1 ≤ R.frames) (hlo : (rest.map fun v => v.category).sum + 13 ≤ R.locals) (hc : cells ≤ R.cells ∧ slots ≤ R.slots) {x y : Int32} (hdg : decode cc pc = .ok (.invokestatic idx, 3))
    (kk : W p l e R s m args below meth c H locs cells slots Q (F0 m (pc + 3) ls (.int (if y < x then y else x) :: rest))) : W p l e R s m args below meth c H locs cells slots Q (F0 m pc ls (.int y :: .int x :: rest)) :=
  va_mmin C0.1.1 C0.1.2.1 (C0.1.2.2.1.trans hsz.symm) C0.1.2.2.2.1 (C0.2.2.2.1.1 _ hl rfl _) (C0.2.2.2.1.1 _ hmins rfl _) (C0.2.2.2.1.1 _ mz_J9 rfl _) (C0.2.2.2.1.1 _ hminc rfl _) hf hlo hc.1 hc.2 hdg kk
theorem g_newq (C0 : hC p l s m meth c cc nL args own D tys A) (G : hG D A f s H locs) {C : String} {idx : Nat} (hk : Cond.classLink own idx C ∈ lw_tbl) (hao : va_AO C s) (t0 : Nat) {cA : ClassId} (ht : tys[t0]? = some (cA, .object C)) {n : Int32} {N' : Nat} (hn : ¬ n < 0) (hN : n.toNatClampNeg = N') (hbytes : N' * 4 ≤ 536870912) (hcells : cells + 1 ≤ R.cells) (hslots : slots + N' ≤ R.slots) (hdg : decode cc pc = .ok (.anewarray idx, 3))
    (kk : ∀ (q : Nat) (H1 : Heap) (f1 : Hf), f q = none → f1 = va_up f q (some (.inl (cA, N', .inr (.inr (.inr (.inr (fun _ => none))))))) → hG D A f1 s H1 locs → H.size ≤ q → W p l e R s m args below meth c H1 locs (cells + 1) (slots + N') Q (F0 m (pc + 3) ls (.ref q :: rest))) : W p l e R s m args below meth c H locs cells slots Q (F0 m pc ls (.int n :: rest)) := by
  subst hN
  obtain ⟨⟨hx, hb, -, ho, htt⟩, hK, -, hv, hA1, -⟩ := C0
  refine W.anew hx hb ho (hv.1 _ hk rfl _) (va_AO.use hao) rfl hdg rfl hn hbytes hcells hslots fun cB kA comp f1 f2 f3 f4 => ?_
  have hcc : cB = cA := by
    obtain ⟨kA', comp', g1, g2, g3, g4⟩ := (hK.2 t0 _ ht).2
    exact Option.some.inj (f1.symm.trans g4)
  subst hcc
  generalize hH1 : H.push ({ cls := cB, slots := Array.replicate n.toNatClampNeg .null, vm := .none } : Cell) = H1
  have z1 : H1.size = H.size + 1 := by rw [← hH1, Array.size_push]
  have e1 : H1[H.size]? = some (arrV cB n.toNatClampNeg (fun _ => .null)) := by rw [← hH1, Array.getElem?_push_size, ← arrV_new]
  have o1 : ∀ q : Nat, q < H.size → H1[q]? = H[q]? := fun q hq => by rw [← hH1, Array.getElem?_push, if_neg (Nat.ne_of_lt hq)]
  obtain ⟨n1, n2⟩ := hq_new (H1 := H1) (e := .inl (cB, n.toNatClampNeg, .inr (.inr (.inr (.inr (fun _ => none)))))) G.1 (hA1 _ G.2.1) (by show H1[H.size]? = some (vp_cell _ _); rw [vp_cell_q]; exact e1) o1
  exact kk H.size H1 _ n1 rfl ⟨n2, Nat.le_trans G.2.1 (by omega), fun x h1 h2 => (o1 x (Nat.lt_of_lt_of_le h1 G.2.1)).trans (G.2.2.1 x h1 h2), G.2.2.2⟩ (Nat.le_refl _)
end GM
