/-! PLAY: the steps of a text in both -/
theorem fl_s {P : Nat → Nat → Int32} {cm : Nat → Int32} {cs : Nat → Nat → Nat → Int32} {j : Nat} : fl P cm cs (j + 1) = (pfM (fl P cm cs j).1 (fl P cm cs j).2 (P j), pfS (fl P cm cs j).1 (fl P cm cs j).2 (P j)) := rfl
/-- all steps up to K are taken -/
theorem upto {cm : Nat → Int32} {cs : Nat → Nat → Nat → Int32} {g : Nat → Int32} {ov : Int32} {k K : Nat} {P : Nat → Nat → Int32} (hR : RR cm cs g ov k) (hk : k + K ≤ 512) (hS : ∀ j, j < K → OKS (P j)) (hr : ∀ j, j < K → rfR (fl P cm cs j).1 (fl P cm cs j).2 (P j) = 0) : ∀ j, j ≤ K → RR (fl P cm cs j).1 (fl P cm cs j).2 (flG P g j) ov (k + j) := by
  intro j
  induction j with
  | zero => intro _; exact hR
  | succ j ih =>
    intro hj
    have h1 := ih (by omega)
    have h2 := hr j (by omega)
    exact (STEP (by omega) h1 (RR_goes h1 h2) (hS j (by omega)) h2).1
theorem fl24 {cm : Nat → Int32} {cs : Nat → Nat → Nat → Int32} {g : Nat → Int32} {ov : Int32} {k K : Nat} {P : Nat → Nat → Int32} (hR : RR cm cs g ov k) (hk : k + K ≤ 512) (hS : ∀ j, j < K → OKS (P j)) (hr : ∀ j, j < K → rfR (fl P cm cs j).1 (fl P cm cs j).2 (P j) = 0) : ∀ j, j ≤ K → flG P g j 24 = g 24 := by
  intro j
  induction j with
  | zero => intro _; rfl
  | succ j ih =>
    intro hj
    have h1 := upto hR hk hS hr j (by omega)
    exact (DSG_24 (by omega) h1 (hS j (by omega)) (hr j (by omega))).trans (ih (by omega))
theorem RR_23 {cm : Nat → Int32} {cs : Nat → Nat → Nat → Int32} {g : Nat → Int32} {ov : Int32} {k : Nat} (hk : k ≤ 512) (h : RR cm cs g ov k) : dD g = k := by
  obtain ⟨n, SB, RP, RF, OC, ⟨b1, b2, b3, b4, b5, b6, b7, b8, b9, b10⟩, -⟩ := h
  unfold dD; rw [b10]; exact nI_c (by omega)
theorem RR_4 {cm : Nat → Int32} {cs : Nat → Nat → Nat → Int32} {g : Nat → Int32} {ov : Int32} {k : Nat} (h : RR cm cs g ov k) : dN (g 4) 4 := by
  obtain ⟨n, SB, RP, RF, OC, ⟨b1, b2, b3, b4, b5, b6, b7, b8, b9, b10⟩, -⟩ := h
  exact dN_mk b9 b1 (by omega)
/-- the deeds that a text writes -/
theorem plD_at {cm : Nat → Int32} {cs : Nat → Nat → Nat → Int32} {gb gx gq g gd : Nat → Int32} {ov : Int32} {k N K tl : Nat} (hc : CHR tl gb gx) (hp : PAR1 tl gb N) (hKN : K ≤ N) (hR : RR cm cs g ov k) (hk : k + K ≤ 512) (hr : ∀ j, j < K → rfR (fl (psS tl gb) cm cs j).1 (fl (psS tl gb) cm cs j).2 (psS tl gb j) = 0) : ∀ n, n ≤ K → (∀ p, p < 6 * k → plD (pzQ gx tl gq N) g gd n p = gd p) ∧ ∀ j, j < n → plD (pzQ gx tl gq N) g gd n (6 * (k + j)) = codW (psS tl gb j) ∧ plD (pzQ gx tl gq N) g gd n (6 * (k + j) + 1) = cod1 (psS tl gb j) ∧ plD (pzQ gx tl gq N) g gd n (6 * (k + j) + 2) = cod2 (psS tl gb j) ∧ plD (pzQ gx tl gq N) g gd n (6 * (k + j) + 3) = cod3 (psS tl gb j) ∧ plD (pzQ gx tl gq N) g gd n (6 * (k + j) + 4) = cod4 (psS tl gb j) ∧ plD (pzQ gx tl gq N) g gd n (6 * (k + j) + 5) = cod5 (psS tl gb j) := by
  intro n
  induction n with
  | zero => intro _; exact ⟨fun _ _ => rfl, fun j hj => absurd hj (by omega)⟩
  | succ n ih =>
    intro hn
    obtain ⟨i1, i2⟩ := ih (by omega)
    have h1 := upto hR hk (fun j hj => par_OKS hc hp j (by omega)) hr n (by omega)
    have hd : dD (plG (pzQ gx tl gq N) g n) = k + n := by rw [plG_fl hc hp n (by omega)]; exact RR_23 (by omega) h1
    obtain ⟨q1, q2⟩ := hp.2.1 n (by omega)
    obtain ⟨e0, e1, e2, e3⟩ := pzQ_at (gq := gq) hc hp N (Nat.le_refl _) n (by omega)
    obtain ⟨-, -, c0, c1, c2, c3, c4, c5⟩ := loc_ok hc q1 q2
    have c4' : cod4 (psS tl gb n) = 0 := c4
    have c5' : cod5 (psS tl gb n) = 0 := c5
    have eD : plD (pzQ gx tl gq N) g gd (n + 1) = doesD (codW (psS tl gb n)) (cod1 (psS tl gb n)) (cod2 (psS tl gb n)) (cod3 (psS tl gb n)) (cod4 (psS tl gb n)) (cod5 (psS tl gb n)) (plD (pzQ gx tl gq N) g gd n) (k + n) := by
      rw [← hd, c4', c5', ← e0, ← e1, ← e2, ← e3]; rfl
    rw [eD]
    unfold doesD
    refine ⟨fun p hp9 => ?_, fun j hj => ?_⟩
    · rw [upd_off (by omega), upd_off (by omega), upd_off (by omega), upd_off (by omega), upd_off (by omega), upd_off (by omega)]
      exact i1 p hp9
    · rcases Nat.lt_or_ge j n with z | z
      · obtain ⟨a0, a1, a2, a3, a4, a5⟩ := i2 j z
        refine ⟨?_, ?_, ?_, ?_, ?_, ?_⟩
        · rw [upd_off (by omega), upd_off (by omega), upd_off (by omega), upd_off (by omega), upd_off (by omega), upd_off (by omega)]; exact a0
        · rw [upd_off (by omega), upd_off (by omega), upd_off (by omega), upd_off (by omega), upd_off (by omega), upd_off (by omega)]; exact a1
        · rw [upd_off (by omega), upd_off (by omega), upd_off (by omega), upd_off (by omega), upd_off (by omega), upd_off (by omega)]; exact a2
        · rw [upd_off (by omega), upd_off (by omega), upd_off (by omega), upd_off (by omega), upd_off (by omega), upd_off (by omega)]; exact a3
        · rw [upd_off (by omega), upd_off (by omega), upd_off (by omega), upd_off (by omega), upd_off (by omega), upd_off (by omega)]; exact a4
        · rw [upd_off (by omega), upd_off (by omega), upd_off (by omega), upd_off (by omega), upd_off (by omega), upd_off (by omega)]; exact a5
      · have ej : j = n := by omega
        subst ej
        refine ⟨?_, ?_, ?_, ?_, ?_, ?_⟩
        · rw [upd_off (by omega), upd_off (by omega), upd_off (by omega), upd_off (by omega), upd_off (by omega)]; exact upd_at
        · rw [upd_off (by omega), upd_off (by omega), upd_off (by omega), upd_off (by omega)]; exact upd_at
        · rw [upd_off (by omega), upd_off (by omega), upd_off (by omega)]; exact upd_at
        · rw [upd_off (by omega), upd_off (by omega)]; exact upd_at
        · rw [upd_off (by omega)]; exact upd_at
        · exact upd_at
/-- an element of the reference's list, asked and done -/
theorem pl_rf {gb gx gq g : Nat → Int32} {N tl j : Nat} (hc : CHR tl gb gx) (hp : PAR1 tl gb N) (hj : j < N) : refusesR ((pzQ gx tl gq N) (4 * j)) ((pzQ gx tl gq N) (4 * j + 1)) ((pzQ gx tl gq N) (4 * j + 2)) ((pzQ gx tl gq N) (4 * j + 3)) 0 0 (plG (pzQ gx tl gq N) g j) = RFG (psS tl gb j) (flG (psS tl gb) g j) ∧ PAR ((pzQ gx tl gq N) (4 * j)) ((pzQ gx tl gq N) (4 * j + 1)) ((pzQ gx tl gq N) (4 * j + 2)) := by
  obtain ⟨q1, q2⟩ := hp.2.1 j hj
  obtain ⟨e0, e1, e2, e3⟩ := pzQ_at (gq := gq) hc hp N (Nat.le_refl _) j hj
  obtain ⟨-, -, c0, c1, c2, c3, c4, c5⟩ := loc_ok hc q1 q2
  have c4' : cod4 (psS tl gb j) = 0 := c4
  have c5' : cod5 (psS tl gb j) = 0 := c5
  rw [e0, e1, e2, e3, plG_fl hc hp j (by omega)]
  refine ⟨?_, OKS_PAR (par_OKS hc hp j hj)⟩
  unfold RFG
  rw [c4', c5']
theorem pl_ac {cm : Nat → Int32} {cs : Nat → Nat → Nat → Int32} {gb gx gq g : Nat → Int32} {ov : Int32} {k N K tl : Nat} (hc : CHR tl gb gx) (hp : PAR1 tl gb N) (hKN : K ≤ N) (hR : RR cm cs g ov k) (hk : k + K ≤ 512) (hr : ∀ j, j < K → rfR (fl (psS tl gb) cm cs j).1 (fl (psS tl gb) cm cs j).2 (psS tl gb j) = 0) : ∀ j, j < K → refusesR ((pzQ gx tl gq N) (4 * j)) ((pzQ gx tl gq N) (4 * j + 1)) ((pzQ gx tl gq N) (4 * j + 2)) ((pzQ gx tl gq N) (4 * j + 3)) 0 0 (plG (pzQ gx tl gq N) g j) ≤ 0 ∧ dN ((plG (pzQ gx tl gq N) g j) 4) 4 ∧ PAR ((pzQ gx tl gq N) (4 * j)) ((pzQ gx tl gq N) (4 * j + 1)) ((pzQ gx tl gq N) (4 * j + 2)) ∧ DOK (plG (pzQ gx tl gq N) g j) ((pzQ gx tl gq N) (4 * j)) ((pzQ gx tl gq N) (4 * j + 1)) ((pzQ gx tl gq N) (4 * j + 2)) := by
  intro j hj
  have hS := par_OKS hc hp j (by omega)
  have h1 := upto hR hk (fun j hj => par_OKS hc hp j (by omega)) hr j (by omega)
  have h2 := hr j hj
  obtain ⟨a1, a2⟩ := pl_rf (gq := gq) (g := g) hc hp (show j < N by omega)
  have hd := RR_DOK (by omega) h1 (RR_goes h1 h2) hS h2
  refine ⟨?_, ?_, a2, ?_⟩
  · rw [a1]; exact (RFG_le hS).mpr ((ref_eq h1 hS).symm.trans h2)
  · rw [plG_fl hc hp j (by omega)]; exact RR_4 h1
  · obtain ⟨e0, e1, e2, e3⟩ := pzQ_at (gq := gq) hc hp N (Nat.le_refl _) j (by omega)
    rw [e0, e1, e2, plG_fl hc hp j (by omega)]
    exact hd
/-- as many elements as characters, at most -/
theorem par_n {tl N : Nat} {gb : Nat → Int32} (h : PAR1 tl gb N) : N ≤ tl := by
  rcases Nat.eq_zero_or_pos N with z | z
  · omega
  · have h1 := (h.2.1 (N - 1) (by omega)).1
    have h2 := psP_ge (tl := tl) (gb := gb) (N - 1)
    omega
theorem par_use {tl N : Nat} {gb : Nat → Int32} (h : PAR1 tl gb N) : ∀ j, j < N → psP tl gb j < tl ∧ ¬ X7_isFirst_r2 (X7_sign_x1 tl (psP tl gb j) gb) = 0 ∧ (psB tl gb (psP tl gb j) = 0 → X7_needsSecond_x2 (X7_sign_x1 tl (psP tl gb j) gb) = 0) := fun j hj => ⟨(h.2.1 j hj).1, okE_use (h.2.1 j hj).2⟩
theorem par_z {tl N : Nat} {gb gx : Nat → Int32} (hc : CHR tl gb gx) (h : PAR1 tl gb N) (ht : 1 ≤ tl) : ∀ j, j < N → ¬ pzF gx tl j = 0 ∧ pzP gx tl j < tl := fun j hj => ⟨par_F hc h ht j (by omega), by rw [par_eq hc h j (by omega)]; exact (h.2.1 j hj).1⟩
def FLT (tl : Nat) (gb : Nat → Int32) (N : Nat) : Nat := if tl = 0 then 0 else psP tl gb N + (if X7_isFirst_r2 (X7_sign_x1 tl (psP tl gb N) gb) = 0 then 0 else 1)
theorem CHR0 {gb gx : Nat → Int32} : CHR 0 gb gx := ⟨by omega, fun j hj => absurd hj (by omega)⟩
theorem SVG_0 {AD : Nat → Nat} {cy : Nat → ClassId} {f : Hf} {hi : Int32} {tl k : Nat} (h : SVG AD cy f hi tl k) : SVG AD cy f hi 0 (k + 1) := by
  obtain ⟨lo, le, lfi, lun, nS, nC, ge, SS, gi, gj, a1, a2, a3, a4, a5⟩ := h
  exact ⟨lo, le, lfi, lun, nS, nC, ge, SS, gi, gj, a1, a2, a3, a4, by omega⟩
/-- a log with the same steps, a match made anew -/
theorem JL_re {cm : Nat → Int32} {cs : Nat → Nat → Nat → Int32} {lo le lfi : Int32} {w nS nC : Nat} {ge : Nat → Int32} {SS : Nat → Nat → Int32} {g gp gd : Nat → Int32} (h : JL cm cs lo le lfi w nS nC ge SS g gp gd) (m0 : Nat → Int32) (s0 : Nat → Nat → Nat → Int32) : JL (fl SS (foM m0 le lfi) (foS s0 lo le) nS).1 (fl SS (foM m0 le lfi) (foS s0 lo le) nS).2 lo le lfi w nS nC ge SS g gp gd := by
  obtain ⟨h1, h2, h3, -⟩ := h
  exact ⟨h1, h2, h3, m0, s0, rfl, rfl⟩
theorem JM_cp {cm : Nat → Int32} {cs : Nat → Nat → Nat → Int32} {lo le lfi : Int32} {w nS nC : Nat} {ge : Nat → Int32} {SS : Nat → Nat → Int32} {g q gp gd gr : Nat → Int32} (h : JM cm cs lo le lfi w nS nC ge SS g gp gd) (hq : ∀ p, p < 6441 → q p = g p) (hr : ∀ p, p < 6 * nS → gr p = gd p) : JM cm cs lo le lfi w nS nC ge SS q gp gr := by
  rcases h with ⟨a1, a2, a3, a4⟩ | h
  · exact Or.inl ⟨a1, a2, fun p hp => (hq p hp).trans (a3 p hp), a4⟩
  · exact Or.inr (JL_cp h hq hr)
/-- between the two calls of play -/
def MIDPL (AD : Nat → Nat) (cy : Nat → ClassId) (q q2 : Nat → Option Nat) (k : Nat) (r : Int32) (u : Hf) : Prop := AOK AD q q2 ∧ ∃ (xa xr xk hi th : Int32) (tl w nS nC : Nat) (cm : Nat → Int32) (cs : Nat → Nat → Nat → Int32) (lo le lfi : Int32) (ge : Nat → Int32) (SS : Nat → Nat → Int32) (g gp gd : Nat → Int32) (o : Nat → Int64) (N : Nat) (gb gx : Nat → Int32), MC AD u th xk (nI w) hi (nI tl) xa xr ∧ RMN AD cy u g gp gd ∧ (SVG AD cy u hi tl k ∧ ROG AD cy u ∧ JNK AD cy q2 u ∧ ∃ od, OUD AD cy u od) ∧ TXC AD cy u 0 gb ∧ IA AD cy u 132 60 gx ∧ CHR tl gb gx ∧ (∀ k : Nat, narrow .char (.int (gb k)) = .int (gb k)) ∧ PAR1 tl gb N ∧ JM cm cs lo le lfi w nS nC ge SS g gp gd ∧ nS + tl ≤ k ∧ ((r = 1 ∧ (tl = 0 ∨ (1 ≤ tl ∧ psP tl gb N < tl ∧ ¬ okE tl gb (psP tl gb N) = true)) ∧ XC AD u (nI (FLT tl gb N)) xr xk ∧ CMN AD cy q u cm cs lo le lfi w nS nC ge SS ∧ OUT AD cy u o) ∨ (r = 2 ∧ 1 ≤ tl ∧ tl ≤ psP tl gb N ∧ ∃ (K : Nat) (cm2 : Nat → Int32) (cs2 : Nat → Nat → Nat → Int32), K < N ∧ (∀ j, j < K → rfR (fl (psS tl gb) cm cs j).1 (fl (psS tl gb) cm cs j).2 (psS tl gb j) = 0) ∧ ¬ rfR (fl (psS tl gb) cm cs K).1 (fl (psS tl gb) cm cs K).2 (psS tl gb K) = 0 ∧ XC AD u xa (nI K) (rfR (fl (psS tl gb) cm cs K).1 (fl (psS tl gb) cm cs K).2 (psS tl gb K)) ∧ CMN AD cy q u cm2 cs2 lo le lfi w nS nC ge SS ∧ JM cm2 cs2 lo le lfi w nS nC ge SS g gp gd ∧ OUT AD cy u o) ∨ (r = 0 ∧ 1 ≤ tl ∧ tl ≤ psP tl gb N ∧ (∀ j, j < N → rfR (fl (psS tl gb) cm cs j).1 (fl (psS tl gb) cm cs j).2 (psS tl gb j) = 0) ∧ XC AD u xa xr xk ∧ CMN AD cy q u (fl (psS tl gb) cm cs N).1 (fl (psS tl gb) cm cs N).2 lo le lfi (kpN w) (nS + N) (nC + 1) (upd ge nC (nI (nS + N))) (jn SS (psS tl gb) nS) ∧ OUT AD cy u o ∧ o 0 = (nI N).toInt64))
def IP1 (i : Nat) : Prop := i = 0 ∨ i = 117 ∨ i = 120
def IPL (i : Nat) : Prop := (1 ≤ i ∧ i ≤ 54) ∨ i = 0 ∨ i = 109 ∨ i = 111 ∨ i = 112 ∨ i = 117 ∨ i = 120
def IPR (i : Nat) : Prop := i = 125 ∨ i = 126 ∨ i = 128 ∨ i = 129 ∨ i = 130 ∨ i = 133
section PLF
variable {AD : Nat → Nat} {q q2 : Nat → Option Nat} {cy : Nat → ClassId} {f u : Hf} {xa xr xk hi th : Int32} {tl w nS nC k : Nat} {cm : Nat → Int32} {cs : Nat → Nat → Nat → Int32} {lo le lfi : Int32} {ge : Nat → Int32} {SS : Nat → Nat → Int32} {g gp gd gb gk gq : Nat → Int32}
theorem fr_p1 (hA : AOK AD q q2) (hX : XC AD f xa xr xk) (hT : TXC AD cy f tl gb) (h : hFrL f u [AD 0, AD 117, AD 120]) : FR AD f u IP1 := by
  obtain ⟨⟨tc, t1⟩, t2, qp, t3⟩ := hT
  refine FR_mk hA h (fun y hy => ?_) (fun i hi9 => ?_)
  · simp only [List.mem_cons, List.not_mem_nil, or_false] at hy
    rcases hy with z | z | z
    · exact ⟨0, by unfold IP1; omega, z⟩
    · exact ⟨117, by unfold IP1; omega, z⟩
    · exact ⟨120, by unfold IP1; omega, z⟩
  · rcases hi9 with z | z | z <;> subst z
    · exact nsc_r hX (by decide)
    · exact nsc_r t1 (by decide)
    · exact nsc_a t3
theorem fr_pl (hA : AOK AD q q2) (hX : XC AD f xa xr xk) (hC : CMN AD cy q f cm cs lo le lfi w nS nC ge SS) (hT : TXC AD cy f tl gb) (h : hFrL f u (MA (AM AD) 0 ++ [AD 0, AD 109, AD (109 + 2), AD (109 + 3), AD 117, AD 120])) : FR AD f u IPL := by
  obtain ⟨hM, h1, h2, qs, sq, h3, h4⟩ := hC
  obtain ⟨⟨tc, t1⟩, t2, qp, t3⟩ := hT
  refine FR_mk hA h (fun y hy => ?_) (fun i hi9 => ?_)
  · rcases List.mem_append.mp hy with z | z
    · obtain ⟨j, hj, e⟩ := MA_ix z
      exact ⟨0 + j + 1, by unfold IPL; omega, e⟩
    · simp only [List.mem_cons, List.not_mem_nil, or_false] at z
      rcases z with z | z | z | z | z | z
      · exact ⟨0, by unfold IPL; omega, z⟩
      · exact ⟨109, by unfold IPL; omega, z⟩
      · exact ⟨111, by unfold IPL; omega, z⟩
      · exact ⟨112, by unfold IPL; omega, z⟩
      · exact ⟨117, by unfold IPL; omega, z⟩
      · exact ⟨120, by unfold IPL; omega, z⟩
  · rcases hi9 with z | z | z | z | z | z | z
    · exact nsc_m hM (by omega)
    · subst z; exact nsc_r hX (by decide)
    · subst z; exact nsc_r h1 (by decide)
    · subst z; exact nsc_a h3
    · subst z; exact nsc_a h2
    · subst z; exact nsc_r t1 (by decide)
    · subst z; exact nsc_a t3
theorem fr_pr (hA : AOK AD q q2) (hMc : MC AD f th xk (nI w) hi (nI tl) xa xr) (hRm : RMN AD cy f g gp gd) (hk : IA AD cy f 128 6441 gk) (hq : IA AD cy f 133 240 gq) (h : hFrL f u [AD 125, AD 133, AD 128, AD 126, AD 130, AD 129]) : FR AD f u IPR := by
  obtain ⟨ps, pl, to, hm⟩ := hMc
  refine FR_mk hA h (fun y hy => ?_) (fun i hi9 => ?_)
  · simp only [List.mem_cons, List.not_mem_nil, or_false] at hy
    rcases hy with z | z | z | z | z | z
    · exact ⟨125, by unfold IPR; omega, z⟩
    · exact ⟨133, by unfold IPR; omega, z⟩
    · exact ⟨128, by unfold IPR; omega, z⟩
    · exact ⟨126, by unfold IPR; omega, z⟩
    · exact ⟨130, by unfold IPR; omega, z⟩
    · exact ⟨129, by unfold IPR; omega, z⟩
  · rcases hi9 with z | z | z | z | z | z <;> subst z
    · exact nsc_r hm (by decide)
    · exact nsc_a hRm.1
    · exact nsc_a hk
    · exact nsc_a hRm.2.1
    · exact nsc_a hRm.2.2
    · exact nsc_a hq
end PLF
