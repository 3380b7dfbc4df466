/-! A COMMAND OF ONE STEP: class, then reference -/
theorem h_conH {l : Launch} {y : MethodName} {cc : ByteArray} {nL : Nat} {ret : Option FieldType} {hh : List (Nat × Nat × Nat × Nat)} {rm : Room} {D : va_G} {tys : List (ClassId × FieldType)} {f : Hf} {sz : Nat} {av : List Value} {p1 p2 : Int32 → Hf → Prop} {px : String → Hf → Prop}
    (h : hMetH l y cc nL ret hh rm D tys f sz av (hQi p1 D f sz) px) (hp : ∀ r u, p1 r u → p2 r u) : hMetH l y cc nL ret hh rm D tys f sz av (hQi p2 D f sz) px := by
  intro p e ha hc hk s m args below hf happ hP hK
  obtain ⟨n, o, q1, q2, q3, q4⟩ := h p e ha hc hk s m args below hf happ hP hK
  refine ⟨n, o, q1, q2, q3, ?_⟩
  rcases q4 with ⟨⟨⟨r, u, e1, e2, e3⟩, e4⟩, t⟩ | x
  · exact Or.inl ⟨⟨⟨r, u, e1, hp r u e2, e3⟩, e4⟩, t⟩
  · exact Or.inr x
/-- between the class's call and the reference's: a step S -/
def MID (AD : Nat → Nat) (cy : Nat → ClassId) (q q2 : Nat → Option Nat) (k : Nat) (S : Nat → Int32) (bad : Prop) (cR r : Int32) (u : Hf) : Prop := AOK AD q q2 ∧ ∃ (xa xr xk hi th : Int32) (tl w nS nC : Nat) (cm : Nat → Int32) (cs : Nat → Nat → Nat → Int32) (lo le lfi : Int32) (ge : Nat → Int32) (SS : Nat → Nat → Int32) (g gp gd : Nat → Int32) (o : Nat → Int64), MC AD u th xk (nI w) hi (nI tl) xa xr ∧ RMN AD cy u g gp gd ∧ RST AD cy q2 u hi tl k ∧ JM cm cs lo le lfi w nS nC ge SS g gp gd ∧ nS + tl ≤ k ∧ ((bad ∧ r = 1 ∧ XC AD u xa xr xk ∧ CMN AD cy q u cm cs lo le lfi w nS nC ge SS ∧ OUT AD cy u o) ∨ (¬ bad ∧ ¬ rfR cm cs S = 0 ∧ r = cR ∧ XC AD u xa xr (rfR cm cs S) ∧ CMN AD cy q u cm cs lo le lfi w nS nC ge SS ∧ OUT AD cy u o) ∨ (¬ bad ∧ rfR cm cs S = 0 ∧ r = 0 ∧ XC AD u xa xr xk ∧ CMN AD cy q u (pfM cm cs S) (pfS cm cs S) lo le lfi (kpN w) (nS + 1) (nC + 1) (upd ge nC (nI (nS + 1))) (jn SS (fun _ => S) nS) ∧ OUT AD cy u (vp_updL o 0 (pfR cm cs S).toInt64)))
def IM (i : Nat) : Prop := (1 ≤ i ∧ i ≤ 54) ∨ i = 109 ∨ i = 111 ∨ i = 112
def IR (i : Nat) : Prop := i = 125 ∨ i = 126 ∨ i = 129 ∨ i = 130
section CD
variable {AD : Nat → Nat} {q q2 : Nat → Option Nat} {cy : Nat → ClassId} {f u v : Hf} {xa xr xk hi th : Int32} {tl w nS nC k : Nat} {cm : Nat → Int32} {cs : Nat → Nat → Nat → Int32} {lo le lfi : Int32} {ge : Nat → Int32} {SS : Nat → Nat → Int32} {g gp gd : Nat → Int32} {o : Nat → Int64} {S : Nat → Int32}
theorem kp_i : ∀ w, w < 9 → (if 7 < nI w then 7 else nI w) + 1 = nI (kpN w) := by decide
theorem fr_x (hA : AOK AD q q2) (hX : XC AD f xa xr xk) (h : hFrL f u [AD 0]) : FR AD f u (fun i => i = 0) := FR_mk hA h (fun y hy => ⟨0, rfl, List.mem_singleton.mp hy⟩) (fun i hi9 => by subst hi9; exact nsc_r hX (by decide))
theorem fr_m (hA : AOK AD q q2) (hC : CMN AD cy q f cm cs lo le lfi w nS nC ge SS) (h : hFrL f u (MA (AM AD) 0 ++ [AD (109 + 2), AD 109, AD (109 + 3)])) : FR AD f u IM := by
  obtain ⟨hM, h1, h2, qs, sq, h3, h4⟩ := hC
  refine FR_mk hA h (fun y hy => ?_) (fun i hi9 => ?_)
  · rcases List.mem_append.mp hy with z | z
    · obtain ⟨j, hj, e⟩ := MA_ix z
      exact ⟨0 + j + 1, by unfold IM; omega, e⟩
    · simp only [List.mem_cons, List.not_mem_nil, or_false] at z
      rcases z with z | z | z
      · exact ⟨111, by unfold IM; omega, z⟩
      · exact ⟨109, by unfold IM; omega, z⟩
      · exact ⟨112, by unfold IM; omega, z⟩
  · rcases hi9 with z | z | z | z
    · exact nsc_m hM (by omega)
    · subst z; exact nsc_r h1 (by decide)
    · subst z; exact nsc_a h3
    · subst z; exact nsc_a h2
theorem fr_r (hA : AOK AD q q2) (hMc : MC AD f th xk (nI w) hi (nI tl) xa xr) (hRm : RMN AD cy f g gp gd) (h : hFrL f u [AD 125, AD 129, AD 130, AD 126]) : FR AD f u IR := by
  obtain ⟨ps, pl, to, hm⟩ := hMc
  refine FR_mk hA h (fun y hy => ?_) (fun i hi9 => ?_)
  · simp only [List.mem_cons, List.not_mem_nil, or_false] at hy
    rcases hy with z | z | z | z
    · exact ⟨125, by unfold IR; omega, z⟩
    · exact ⟨129, by unfold IR; omega, z⟩
    · exact ⟨130, by unfold IR; omega, z⟩
    · exact ⟨126, by unfold IR; omega, z⟩
  · rcases hi9 with z | z | z | z
    · subst z; exact nsc_r hm (by decide)
    · subst z; exact nsc_a hRm.1
    · subst z; exact nsc_a hRm.2.1
    · subst z; exact nsc_a hRm.2.2
theorem mA {r : Int32} {w9 : Nat} {qs : Nat → Option Nat} {sq : Nat → Nat} (hA : AOK AD q q2) (hX : XC AD f xa xr xk) (hMc : MC AD f th xk (nI w) hi (nI tl) xa xr) (hC : CMN AD cy q f cm cs lo le lfi w nS nC ge SS) (hRm : RMN AD cy f g gp gd) (hRs : RST AD cy q2 f hi tl k) (hO : OUT AD cy f o) (hw : w ≤ 8) (hqs : ∀ j : Nat, j < nS → qs j = some (sq j) ∧ f (sq j) = some (scell (SS j))) (h9 : v w9 = some (scell S)) (p1 : v (AD (109 + 2)) = some (.inl (cy 4, 512, .inr (.inr (.inr (.inr (va_up qs nS (some w9)))))))) (p2 : v (AD 109) = some (.inr (3, [.ref (AD (109 + 1)), .ref (AD (109 + 2)), .ref (AD (109 + 3)), .int lo, .int le, .int lfi, .int (nI (nS + 1)), .int (nI (nC + 1)), .int ((if 7 < nI w then 7 else nI w) + 1)]))) (p3 : v (AD (109 + 3)) = some (.inl (cy 0, 512, .inl (upd ge nC (nI (nS + 1)))))) (p4 : MW (AM AD) 0 cy q (pfM cm cs S) (pfS cm cs S) v) (p5 : hFrL f v (MA (AM AD) 0 ++ [AD (109 + 2), AD 109, AD (109 + 3)])) (hu : u = va_up v (AD 138) (some (.inl (cy 5, 1, .inr (.inl (vp_updL o 0 r.toInt64)))))) : XC AD u xa xr xk ∧ MC AD u th xk (nI w) hi (nI tl) xa xr ∧ CMN AD cy q u (pfM cm cs S) (pfS cm cs S) lo le lfi (kpN w) (nS + 1) (nC + 1) (upd ge nC (nI (nS + 1))) (jn SS (fun _ => S) nS) ∧ RMN AD cy u g gp gd ∧ RST AD cy q2 u hi tl k ∧ OUT AD cy u (vp_updL o 0 r.toInt64) := by
  have F1 := fr_m hA hC p5
  have O1 : OUT AD cy v o := OUT_fr F1 (by unfold IM; omega) hO
  obtain ⟨F2, O2⟩ := FR_up hA (nsc_a O1) hu
  have C1 : CMN AD cy q v (pfM cm cs S) (pfS cm cs S) lo le lfi (kpN w) (nS + 1) (nC + 1) (upd ge nC (nI (nS + 1))) (jn SS (fun _ => S) nS) := by
    refine ⟨p4, ?_, p3, va_up qs nS (some w9), fun j => if j = nS then w9 else sq j, p1, fun j hj => ?_⟩
    · rw [← kp_i w (by omega)]; exact p2
    · by_cases e : j = nS
      · subst e
        refine ⟨?_, ?_⟩
        · show va_up qs j (some w9) j = some (if j = j then w9 else sq j)
          rw [va_up_self, if_pos rfl]
        · show v (if j = j then w9 else sq j) = _
          rw [if_pos rfl, h9]
          exact congrArg (fun z => some (scell z)) (jn_hi (S := SS) (P := fun _ => S) (a := j) (j := 0)).symm
      · obtain ⟨c1, c2⟩ := hqs j (by omega)
        refine ⟨?_, ?_⟩
        · show va_up qs nS (some w9) j = some (if j = nS then w9 else sq j)
          rw [va_up_ne _ _ e, if_neg e]; exact c1
        · show v (if j = nS then w9 else sq j) = _
          rw [if_neg e, jn_lo (show j < nS by omega)]
          exact F1.2 _ _ c2
  refine ⟨XC_fr F2 (by omega) (XC_fr F1 (by unfold IM; omega) hX), MC_fr F2 (by omega) (MC_fr F1 (by unfold IM; omega) hMc), CMN_fr F2 (fun i h1 h2 => by omega) (by omega) (by omega) (by omega) C1, RMN_fr F2 (by omega) (by omega) (by omega) (RMN_fr F1 (by unfold IM; omega) (by unfold IM; omega) (by unfold IM; omega) hRm), RST_fr F2 (fun i h => by omega) (Nat.le_refl _) (RST_fr F1 (fun i h => by unfold IM; omega) (Nat.le_refl _) hRs), O2⟩
theorem cmd_eq {what p1 p2 p3 p4 p5 : Int32} (hc : codW S = what ∧ cod1 S = p1 ∧ cod2 S = p2 ∧ cod3 S = p3 ∧ cod4 S = p4 ∧ cod5 S = p5) (ct cr code : Int32) (un : Nat) : refusesR what p1 p2 p3 p4 p5 g = RFG S g ∧ X9_commands_r1 g what p1 p2 p3 p4 p5 = (if RFG S g ≤ 0 then DSR S g else 0) ∧ X9_commands_g2 g gp what p1 p2 p3 p4 p5 un = (if RFG S g ≤ 0 then kpG gp g un else gp) ∧ X9_commands_x3 ct g code what p1 p2 p3 p4 p5 = (if RFG S g ≤ 0 then ct else code) ∧ X9_commands_x4 cr g what p1 p2 p3 p4 p5 = (if RFG S g ≤ 0 then cr else RFG S g) ∧ X9_commands_x5 g what p1 p2 p3 p4 p5 un = (if RFG S g ≤ 0 then nI (kpN un) else nI un) ∧ X9_commands_g6 g gd what p1 p2 p3 p4 p5 = (if RFG S g ≤ 0 then doesD (codW S) (cod1 S) (cod2 S) (cod3 S) (cod4 S) (cod5 S) gd (dD g) else gd) ∧ X9_commands_g7 g what p1 p2 p3 p4 p5 = (if RFG S g ≤ 0 then upd (DSG S g) 24 ((DSG S g 24) + 1) else g) := by
  obtain ⟨rfl, rfl, rfl, rfl, rfl, rfl⟩ := hc
  exact ⟨rfl, rfl, rfl, rfl, rfl, rfl, rfl, rfl⟩
/-- the reference's end of a command -/
theorem post_cmd {bad : Prop} {cR r th' re' un' r' : Int32} {g' gp' gd' : Nat → Int32} (hA : AOK AD q q2) (hk : k ≤ 511) (hcR : ¬ cR = 0) (hS : ¬ bad → OKS S) (hMc : MC AD f th xk (nI w) hi (nI tl) xa xr) (hRm : RMN AD cy f g gp gd) (hRs : RST AD cy q2 f hi tl k) (hJ : JM cm cs lo le lfi w nS nC ge SS g gp gd) (hb : nS + tl ≤ k) (hc : (bad ∧ r = 1 ∧ XC AD f xa xr xk ∧ CMN AD cy q f cm cs lo le lfi w nS nC ge SS ∧ OUT AD cy f o) ∨ (¬ bad ∧ ¬ rfR cm cs S = 0 ∧ r = cR ∧ XC AD f xa xr (rfR cm cs S) ∧ CMN AD cy q f cm cs lo le lfi w nS nC ge SS ∧ OUT AD cy f o) ∨ (¬ bad ∧ rfR cm cs S = 0 ∧ r = 0 ∧ XC AD f xa xr xk ∧ CMN AD cy q f (pfM cm cs S) (pfS cm cs S) lo le lfi (kpN w) (nS + 1) (nC + 1) (upd ge nC (nI (nS + 1))) (jn SS (fun _ => S) nS) ∧ OUT AD cy f (vp_updL o 0 (pfR cm cs S).toInt64))) (hB : bad → r' = 0 ∧ th' = 1 ∧ re' = xk ∧ un' = nI w ∧ g' = g ∧ gp' = gp ∧ gd' = gd) (hN : ¬ bad → r' = (if RFG S g ≤ 0 then DSR S g else 0) ∧ th' = (if RFG S g ≤ 0 then 0 else cR) ∧ re' = (if RFG S g ≤ 0 then xk else RFG S g) ∧ un' = (if RFG S g ≤ 0 then nI (kpN w) else nI w) ∧ g' = (if RFG S g ≤ 0 then upd (DSG S g) 24 ((DSG S g 24) + 1) else g) ∧ gp' = (if RFG S g ≤ 0 then kpG gp g w else gp) ∧ gd' = (if RFG S g ≤ 0 then doesD (codW S) (cod1 S) (cod2 S) (cod3 S) (cod4 S) (cod5 S) gd (dD g) else gd)) (um : MC AD u th' re' un' hi (nI tl) xa xr) (up : IA AD cy u 129 51528 gp') (ud : IA AD cy u 130 24000 gd') (uv : IA AD cy u 126 6441 g') (uf : hFrL f u [AD 125, AD 129, AD 130, AD 126]) : ∃ o, WJ AD cy q q2 (k + 1) r o u ∧ (r = 0 → o 0 = r'.toInt64) := by
  have F := fr_r hA hMc hRm uf
  have hR2 : RST AD cy q2 u hi tl (k + 1) := RST_fr F (fun i h => by unfold IR; omega) (by omega) hRs
  have kX : ∀ a b c, XC AD f a b c → XC AD u a b c := fun a b c h => XC_fr F (by unfold IR; omega) h
  have kC : ∀ cm cs w nS nC ge SS, CMN AD cy q f cm cs lo le lfi w nS nC ge SS → CMN AD cy q u cm cs lo le lfi w nS nC ge SS := fun _ _ _ _ _ _ _ h => CMN_fr F (fun i h1 h2 => by unfold IR; omega) (by unfold IR; omega) (by unfold IR; omega) (by unfold IR; omega) h
  have kO : ∀ o, OUT AD cy f o → OUT AD cy u o := fun o h => OUT_fr F (by unfold IR; omega) h
  rcases hc with ⟨c1, rfl, c3, c4, c5⟩ | ⟨c1, c2, rfl, c3, c4, c5⟩ | ⟨c1, c2, rfl, c3, c4, c5⟩
  · obtain ⟨e1, e2, e3, e4, e5, e6, e7⟩ := hB c1
    rw [e2, e3, e4] at um
    rw [e6] at up
    rw [e7] at ud
    rw [e5] at uv
    exact ⟨o, ⟨hA, xa, xr, xk, hi, tl, w, nS, nC, cm, cs, lo, le, lfi, ge, SS, g, gp, gd, kX _ _ _ c3, um, kC _ _ _ _ _ _ _ c4, ⟨uv, up, ud⟩, hR2, kO _ c5, hJ, by omega⟩, fun z => absurd z (by decide)⟩
  · obtain ⟨e1, e2, e3, e4, e5, e6, e7⟩ := hN c1
    have hg := JM_ref hJ (hS c1)
    have hn : ¬ RFG S g ≤ 0 := fun z => c2 (hg.trans ((RFG_le (hS c1)).mp z))
    rw [if_neg hn] at e1 e2 e3 e4 e5 e6 e7
    rw [e2, e3, e4, ← hg] at um
    rw [e6] at up
    rw [e7] at ud
    rw [e5] at uv
    have hr0 : r = 0 → o 0 = r'.toInt64 := fun z => by
      exfalso
      exact hcR z
    exact ⟨o, ⟨hA, xa, xr, _, hi, tl, w, nS, nC, cm, cs, lo, le, lfi, ge, SS, g, gp, gd, kX _ _ _ c3, um, kC _ _ _ _ _ _ _ c4, ⟨uv, up, ud⟩, hR2, kO _ c5, hJ, by omega⟩, hr0⟩
  · obtain ⟨e1, e2, e3, e4, e5, e6, e7⟩ := hN c1
    have hg := JM_ref hJ (hS c1)
    have hp : RFG S g ≤ 0 := (RFG_le (hS c1)).mpr (hg.symm.trans c2)
    rw [if_pos hp] at e1 e2 e3 e4 e5 e6 e7
    rw [e2, e3, e4] at um
    rw [e6] at up
    rw [e7] at ud
    rw [e5] at uv
    obtain ⟨j1, j2, -⟩ := JM_step hJ (hS c1) (by omega) c2
    refine ⟨_, ⟨hA, xa, xr, xk, hi, tl, kpN w, nS + 1, nC + 1, _, _, lo, le, lfi, _, _, _, _, _, kX _ _ _ c3, um, kC _ _ _ _ _ _ _ c4, ⟨uv, up, ud⟩, hR2, kO _ c5, j1, by omega⟩, fun _ => ?_⟩
    rw [e1, ← j2]
    exact if_pos rfl
end CD
