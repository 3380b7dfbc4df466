section ACP
variable {p : Program} {l : Launch} {e : Env} {R : Room} {s : State} {m : MethodId} {args : Array Value} {below : List Frame} {meth : Method} {c : Code} {H : Heap} {locs : List Loc} {cells slots : Nat} {Q : State → Prop}
variable {cc : ByteArray} {nL pc : Nat} {ls : Array Slot} {rest : List Value} {D : va_G} {A : Nat → Prop} {a a0 : Nat} {tys : List (ClassId × FieldType)} {f : Hf} {own : String}
/-- an array of ints copied into another one -/
theorem g_acopy (C0 : hC p l s m meth c cc nL args own D tys A) (G : hG D A f s H locs) {cA : ClassId} {n0 n1 : Nat} {g0 g1 : Nat → Int32} (he0 : f a0 = some (.inl (cA, n0, .inl g0))) (he1 : f a = some (.inl (cA, n1, .inl g1))) (t0 : Nat) (ht : tys[t0]? = some (cA, .int)) {idx : Nat} (hl : Cond.methodLink own idx arraycopyName ∈ lw_tbl) (hst : Cond.static arraycopyName ∈ lw_tbl) (hna : Cond.native arraycopyName ∈ lw_tbl) (hin : Cond.initialized "java/lang/System" ∈ lw_tbl)
    {sp dp n : Int32} (h1 : ¬ sp < 0) (h2 : ¬ dp < 0) (h3 : ¬ n < 0) (h4 : sp.toNatClampNeg + n.toNatClampNeg ≤ n0) (h5 : dp.toNatClampNeg + n.toNatClampNeg ≤ n1) (hsz : ls.size = nL) (hframes : 1 ≤ R.frames) (hlocals : (rest.map fun v => v.category).sum + 18 ≤ R.locals) (hdg : decode cc pc = .ok (.invokestatic idx, 3))
    (kk : ∀ (H1 : Heap) (locs1 : List Loc) (f1 : Hf), f1 = va_up f a (some (.inl (cA, n1, .inl (va_cpy g0 g1 sp.toNatClampNeg dp.toNatClampNeg n.toNatClampNeg)))) → hG D A f1 s H1 locs1 → W p l e R s m args below meth c H1 locs1 cells slots Q (F0 m (pc + 3) ls rest)) : W p l e R s m args below meth c H locs cells slots Q (F0 m pc ls (.int n :: .int dp :: .ref a :: .int sp :: .ref a0 :: rest)) := by
  have nn : ∀ z : Int32, ¬ z < 0 → z.toInt = (z.toNatClampNeg : Int) := by
    intro z hz
    have hz0 : (0 : Int) ≤ z.toInt := by
      have := Int32.not_lt.mp hz
      simpa using Int32.le_iff_toInt_le.mp this
    show z.toInt = ((z.toInt.toNat : Nat) : Int)
    omega
  intro T hT X
  obtain ⟨hc0, -⟩ := G.1 a0 _ he0
  obtain ⟨hc1, haA⟩ := G.1 a _ he1
  replace hc0 : H[a0]? = some (vp_cell cA (n0, .inl g0)) := hc0
  replace hc1 : H[a]? = some (vp_cell cA (n1, .inl g1)) := hc1
  have hW9 := C0.2.2.2.1.1
  obtain ⟨hx, hb, hml, ho, -⟩ := C0.1
  obtain ⟨-, k0, hk0, cm0, hkk0⟩ := (C0.2.1.2 t0 _ ht).1 n0 (fun j => .int (g0 j))
  obtain ⟨-, k1, hk1, cm1, hkk1⟩ := (C0.2.1.2 t0 _ ht).1 n1 (fun j => .int (g1 j))
  obtain ⟨vm', X', step⟩ := X.arraycopy hx ho (hW9 _ hl rfl _) (hW9 _ hna rfl _) (hW9 _ hst rfl _) (hW9 _ hin rfl _) (src := a0) (dst := a) (cs := vp_cell cA (n0, .inl g0)) (cd := vp_cell cA (n1, .inl g1)) (srcPos := sp) (destPos := dp) (n := n) (by rw [hT]; exact hc0) (by rw [hT]; exact hc1)
    (fun _ h => by cases h) (fun _ h => by cases h) (fun h => by cases h) (fun h => by cases h) hk0 hk1 hkk0 hkk1 (by simp [refKind]) h1 h2 h3
    (by rw [nn sp h1, nn n h3]; show ¬ _ > ((arrV cA n0 (fun j => .int (g0 j))).slots.size : Int); rw [arrV_size]; omega)
    (by rw [nn dp h2, nn n h3]; show ¬ _ > ((arrV cA n1 (fun j => .int (g1 j))).slots.size : Int); rw [arrV_size]; omega)
    (fun vm₁ _ i hi => by
      have e9 : (vp_cell cA (n0, .inl g0)).slots.getD (sp.toNatClampNeg + i) .null = .int (g0 (sp.toNatClampNeg + i)) := by
        show (arrV cA n0 (fun j => .int (g0 j))).slots.getD _ _ = _
        rw [Array.getD_eq_getD_getElem?, arrV_read _ _ (by omega)]
        rfl
      rw [e9]
      exact ⟨rfl, trivial⟩)
    (g := F0 m pc ls (.int n :: .int dp :: .ref a :: .int sp :: .ref a0 :: rest)) rfl (by rw [hml]; exact hsz) (rest := rest) rfl (by rw [hb]; exact hdg) hframes (by show 2 * 0 + _ + _ ≤ _; have e8 : nativeFrameWords "java/lang/System" "arraycopy" 5 + 11 = 18 := (by decide); omega)
  have e1 : copied (vp_cell cA (n0, .inl g0)) (vp_cell cA (n1, .inl g1)) sp dp n = vp_cell cA (n1, .inl (va_cpy g0 g1 sp.toNatClampNeg dp.toNatClampNeg n.toNatClampNeg)) := va_copied (fun z => .int z) cA cA g0 g1 h4
  rw [e1] at X' step
  have hlt : a < H.size := (Array.getElem?_eq_some_iff.mp hc1).1
  have hheap : ((T.setVm vm').setCell a (vp_cell cA (n1, .inl (va_cpy g0 g1 sp.toNatClampNeg dp.toNatClampNeg n.toNatClampNeg)))).heap = H.setIfInBounds a (vp_cell cA (n1, .inl (va_cpy g0 g1 sp.toNatClampNeg dp.toNatClampNeg n.toNatClampNeg))) := by rw [← hT]; rfl
  have oq : ∀ q : Nat, q ≠ a → (H.setIfInBounds a (vp_cell cA (n1, .inl (va_cpy g0 g1 sp.toNatClampNeg dp.toNatClampNeg n.toNatClampNeg))))[q]? = H[q]? := fun q hq => by simp [Array.getElem?_setIfInBounds, Ne.symm hq]
  obtain ⟨t, a1, b1⟩ := kk _ _ _ rfl ⟨hq_set G.1 haA (show (H.setIfInBounds a _)[a]? = some _ by simp [Array.getElem?_setIfInBounds, hlt]) oq, by simp; exact G.2.1, fun q g8 g9 => by
      rw [oq q (fun e => g9 (by rw [e]; exact haA))]
      exact G.2.2.1 q g8 g9, fun q hq => by
      rcases List.mem_append.mp hq with h | h
      · exact G.2.2.2 q h
      · obtain ⟨z, -, hz⟩ := List.mem_map.mp h
        rw [← hz]
        exact haA⟩ _ hheap X'
  exact ⟨t, step t a1, b1⟩
end ACP
theorem mna_acopy : Cond.native arraycopyName ∈ lw_tbl := hin5 (List.mem_of_getElem? (i := 235) rfl)
theorem mini_acopy : Cond.initialized "java/lang/System" ∈ lw_tbl := hin1 (List.mem_of_getElem? (i := 23) rfl)
