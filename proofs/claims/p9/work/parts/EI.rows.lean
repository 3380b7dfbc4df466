/-! ROWS OF RUNS BY OVERS -/
theorem i2f_n (x : Int32) : vf_n32 (FP.i2f x) := by
  obtain ⟨⟨s, c, q, e1, -⟩, ex⟩ := fp_int fpF32 (i32_abs x)
  have hs : 2 * (FP.Core.b32.exps * FP.Core.b32.tails) = 4294967296 := by decide
  rw [hs] at ex
  have e2 : (FP.i2f x).toNat = FP.Core.fromInt FP.Core.b32 x.toInt := by
    show (UInt32.ofNat _).toNat = _
    rw [UInt32.toNat_ofNat_of_lt' ex]
  rw [← e2] at e1
  unfold vf_n32
  rw [UInt32.le_iff_toNat_le, UInt32.toNat_and, show (0x7fffffff : UInt32).toNat = 2 ^ 31 - 1 from by decide, show (0x7f800000 : UInt32).toNat = 2139095040 from by decide, Nat.and_two_pow_sub_one_eq_mod]
  revert e1
  generalize (FP.i2f x).toNat = n
  intro e1
  unfold FP.Core.decode FP.Core.fieldE FP.Core.fieldT FP.Core.fieldS at e1
  have t1 : FP.Core.b32.tails = 8388608 := by decide
  have t2 : FP.Core.b32.exps = 256 := by decide
  rw [t1, t2] at e1
  split at e1
  · split at e1 <;> cases e1
  · omega
theorem hb_le {c0 c4 i : Int32} {n : Nat} (hn : n < 4) (h4 : c4 = nI n) (hi : ¬ X2_hasBegun_x2 c0 c4 i = 0) : ∃ j, j ≤ n ∧ i = nI j := by
  unfold X2_hasBegun_x2 X2_hasBegun_x1 X2_hasBegun_x0 at hi
  by_cases q0 : c0 = 0
  · rw [if_pos q0] at hi; exact absurd rfl hi
  rw [if_neg q0] at hi
  by_cases q1 : i < 0
  · rw [if_pos q1] at hi; exact absurd rfl hi
  rw [if_neg q1] at hi
  by_cases q2 : c4 < i
  · rw [if_pos q2] at hi; exact absurd rfl hi
  rw [h4] at q2
  exact in_nat (n := n) (by omega) (Int32.not_lt.mp q1) (Int32.not_lt.mp q2)
/-- begun in both or in none -/
theorem beg_eq {cm : Nat → Int32} {cs : Nat → Nat → Nat → Int32} {lo le lfi : Int32} {w nS nC : Nat} {ge : Nat → Int32} {SS : Nat → Nat → Int32} {g gp gd : Nat → Int32} (h : JM cm cs lo le lfi w nS nC ge SS g gp gd) (i : Int32) : X9_isInnings_x1 g i = X2_hasBegun_x2 (cm 0) (cm 4) i := by
  unfold X9_isInnings_x1 X2_hasBegun_x2
  rcases h with ⟨-, h0, hg, -⟩ | h
  · rw [if_pos h0, if_neg (by rw [hg 0 (by omega)]; decide)]
  · obtain ⟨n, SB, RP, RF, OC, ⟨b1, b2, b3, b4, b5, b6, b7, b8, b9, b10⟩, -⟩ := JL_RR h
    rw [if_pos b5, if_neg (show ¬ cm 0 = 0 by rw [b4]; decide)]
    unfold X9_isInnings_x0 X2_hasBegun_x1 X2_hasBegun_x0
    rw [b9, b2]
    show (if X8_isWithin_x1 i 0 (nI n) = 0 then 0 else 1) = _
    unfold X8_isWithin_x1 X8_isWithin_x0
    by_cases q1 : i < 0 <;> by_cases q2 : nI n < i <;> simp [q1, q2]
def BGN (cs : Nat → Nat → Nat → Int32) (g : Nat → Int32) (inn : Int32) (j oc bg : Nat) : Prop := j < 4 ∧ inn = nI j ∧ cs j 7 0 = 1 ∧ X3_begun_x0 (cs j 6 2) (cs j 6 7) = nI (oc + bg) ∧ oc + bg ≤ 20 ∧ g (25 + 11 * j + 8) = nI oc ∧ g (25 + 11 * j + 10) = nI bg ∧ X9_isInnings_x1 g inn = 1 ∧ ∀ p, p < 20 → X3_runsAfter_x2 (cs j 5) (cs j 6 2) (nI p) (tget 8 1 8 (cs j 0) 0 0) = X9_storeOvers0_x3 g j oc p
theorem JM_bgn {cm : Nat → Int32} {cs : Nat → Nat → Nat → Int32} {lo le lfi : Int32} {w nS nC : Nat} {ge : Nat → Int32} {SS : Nat → Nat → Int32} {g gp gd : Nat → Int32} (h : JM cm cs lo le lfi w nS nC ge SS g gp gd) {inn : Int32} (hi : ¬ X2_hasBegun_x2 (cm 0) (cm 4) inn = 0) : ∃ j oc bg, BGN cs g inn j oc bg := by
  have hy : X9_isInnings_x1 g inn = 1 := by
    have e := beg_eq h inn
    obtain ⟨j, -, -, z⟩ := isI_nat h (i9 := inn) (by rw [e]; exact hi)
    exact z
  rcases h with ⟨-, h0, -⟩ | h
  · unfold X2_hasBegun_x2 at hi; rw [if_pos h0] at hi; exact absurd rfl hi
  · obtain ⟨n, SB, RP, RF, OC, ⟨b1, b2, b3, b4, b5, b6, b7, b8, b9, b10⟩, hs, hp, -⟩ := JL_RR h
    obtain ⟨j, hj, e⟩ := hb_le b1 b2 hi
    obtain ⟨⟨t0, t1, t2, t3, t4, t5, r3, r4, o2, o8, o9, o7, o6, o1⟩, hrp, hrf, hoc, ⟨r0, r1, r2⟩, ht, he, h67, h01⟩ := hp j hj
    have hr : ∀ p, p < 20 → X3_runsAfter_x2 (cs j 5) (cs j 6 2) (nI p) (tget 8 1 8 (cs j 0) 0 0) = X9_storeOvers0_x3 g j (OC j) p := fun p hp9 => by
      unfold X3_runsAfter_x2 X3_runsAfter_x1 X3_runsAfter_x0 X9_storeOvers0_x3
      rw [if_neg (show ¬ nI p < 0 from Int32.not_lt.mpr (nI_nn p (by omega))), o2]
      by_cases q9 : nI (OC j) ≤ nI p
      · rw [if_pos q9, if_pos q9, tg8 (c := 0) 0 rfl (by omega)]
        exact (t0 0 (by omega)).trans (Wn_at (by omega))
      · have hpo : p < OC j := by
          rcases Nat.lt_or_ge p (OC j) with z | z
          · exact z
          · exact absurd ((nI_leI (a := OC j) (b := p) (by omega) (by omega)).mpr z) q9
        rw [if_neg q9, if_neg q9, if_neg (show ¬ (20 : Int32) ≤ nI p from fun z => by
          have := (nI_leI (a := 20) (b := p) (by omega) (by omega)).mp z
          omega), nI_c (by omega)]
        exact (t5 p hpo).trans (Wn_at (by omega))
    rcases h67 with z | ⟨z, z2⟩
    · refine ⟨j, OC j, 0, by omega, e, r0, ?_, by omega, o8, o7.symm.trans z, hy, hr⟩
      unfold X3_begun_x0
      rw [if_pos z]; exact o2
    · refine ⟨j, OC j, 1, by omega, e, r0, ?_, by omega, o8, o7.symm.trans z, hy, hr⟩
      unfold X3_begun_x0
      rw [if_neg (show ¬ cs j 6 7 = 0 by rw [z]; decide), o2]
      exact nI_add _ 1
/-- what is stored -/
def STD (ex : Int32) (n : Nat) (X : Nat → Int32) (st ex1 ln : Int32) (gz : Nat → UInt32) : Prop := st = 1 ∧ ex1 = ex ∧ ln = nI n ∧ ∀ p, p < n → gz p = (if ex = 0 then FP.fdiv (FP.i2f (X p)) (FP.i2f (nI (p + 1))) else FP.i2f (X p))
section RWS
variable {b n : Nat} {st ex ln ex1 st' ex' ln' : Int32} {gz gy gf gf' : Nat → UInt32} {gs gm gw gs' gm' gw' X : Nat → Int32}
theorem JRW_ext (h : JRW b st ex ln gz gs gm gw gf) (h1 : gs' b = gs b) (h2 : gm' b = gm b) (h3 : ∀ j, j < 20 → gw' (21 * b + j) = gw (21 * b + j)) (h4 : ∀ j, j < 20 → gf' (21 * b + j) = gf (21 * b + j)) : JRW b st ex ln gz gs' gm' gw' gf' := by
  obtain ⟨n, n1, n2, n3, n4⟩ := h
  refine ⟨n, n1, n2, n3, ?_⟩
  rcases n4 with ⟨a, a2⟩ | ⟨a, a2, a3, a4⟩
  · exact Or.inl ⟨a, h1.trans a2⟩
  · refine Or.inr ⟨a, h1.trans a2, h2.trans a3, fun j hj => ?_⟩
    rw [h3 j (by omega), h4 j (by omega)]
    exact a4 j hj
theorem JRW_set (hex : ex = 0 ∨ ex = 1) (hn : n ≤ 20) (h : STD ex n X st ex1 ln gz) (h1 : gs b = nI (if ex = 0 then 2 else 1)) (h2 : gm b = nI n) (h3 : ∀ j, j < n → gw (21 * b + j) = X j) (h4 : ∀ j, j < n → gf (21 * b + j) = FP.fdiv (FP.i2f (X j)) (FP.i2f (nI (j + 1)))) : JRW b st ex1 ln gz gs gm gw gf := by
  obtain ⟨e1, e2, e3, h9⟩ := h
  refine ⟨n, hn, e3, ?_, Or.inr ⟨e1, ?_, h2, fun j hj => ?_⟩⟩
  · rw [e2]; exact hex
  · rw [h1, e2]; exact nI_if
  · rw [h9 j hj, e2]
    by_cases q : ex = 0
    · rw [if_pos q, if_pos q]
      exact ⟨fdiv_n _ _ (nI_ne0 (by omega) (by omega)), h4 j hj⟩
    · rw [if_neg q, if_neg q]
      exact ⟨i2f_n _, X j, trivial, h3 j hj, rfl⟩
theorem cpoF_i {a c : Nat → UInt32} {m j : Nat} (h : j < m) : cpoF a 0 c m j = c j := by
  unfold cpoF
  rw [if_pos (by omega), Nat.sub_zero]
theorem JRW_cp {s d cn : Nat} (hs : JRW s st ex ln gz gs gm gw gf) (hd : JRW d st' ex' ln' gy gs gm gw gf) (he : ex = ex') (hst : ¬ st = 0) (hc : nI cn ≤ ln) (hc20 : cn ≤ 20) (hw : ∀ j, j < 20 → gw' (21 * d + j) = if j < cn then gw (21 * s + j) else gw (21 * d + j)) (hf : ∀ j, j < 20 → gf' (21 * d + j) = if j < cn then gf (21 * s + j) else gf (21 * d + j)) : JRW d st' ex' ln' (cpoF gy 0 gz cn) gs gm gw' gf' := by
  obtain ⟨n, n1, n2, n3, n4⟩ := hs
  obtain ⟨m, m1, m2, m3, m4⟩ := hd
  rw [n2] at hc
  have hcn := (nI_leI (a := cn) (b := n) (by omega) (by omega)).mp hc
  refine ⟨m, m1, m2, m3, ?_⟩
  rcases n4 with ⟨a, -⟩ | ⟨a, a2, a3, a4⟩
  · exact absurd a hst
  rcases m4 with ⟨b, b2⟩ | ⟨b, b2, b3, b4⟩
  · exact Or.inl ⟨b, b2⟩
  refine Or.inr ⟨b, b2, b3, fun j hj => ?_⟩
  rw [hw j (by omega), hf j (by omega)]
  by_cases q : j < cn
  · rw [if_pos q, if_pos q, cpoF_i q, ← he]
    exact a4 j (by omega)
  · rw [if_neg q, if_neg q, cpoF_out (by omega)]
    exact b4 j hj
theorem cpN {row cnt : Int32} (hr : ¬ X8_isWithin_x1 row 0 1 = 0) (h0 : JRW 0 st ex ln gz gs gm gw gf) (h1 : JRW 1 st' ex' ln' gy gs gm gw gf) : X9_copyOversE_n6 gs gm row cnt = if st = 0 then 2 else if st' = 0 then 2 else if ex = ex' then (if cnt < 0 then 4 else if ln < cnt then 4 else if cnt ≤ ln' then 0 else 4) else 3 := by
  obtain ⟨n, -, e1, hx, hs⟩ := h0
  obtain ⟨n', -, e1', hx', hs'⟩ := h1
  have hr' : ¬ X9_isIn_x1 row 0 1 = 0 := hr
  unfold X9_copyOversE_n6 X9_copyOversE_n5 X9_copyOversE_n4 X9_copyOversE_n3 X9_copyOversE_n2 X9_copyOversE_n1 X9_copyOversE_n0
  rw [if_neg hr']
  rcases hs with ⟨z, a⟩ | ⟨z, a, b, -⟩
  · rw [if_pos a, if_pos z]
  · rw [if_neg (show ¬ gs 0 = 0 by rw [a]; split <;> decide), if_neg (show ¬ st = 0 by rw [z]; decide)]
    rcases hs' with ⟨z', a'⟩ | ⟨z', a', b', -⟩
    · rw [if_pos a', if_pos z']
    · rw [if_neg (show ¬ gs 1 = 0 by rw [a']; split <;> decide), if_neg (show ¬ st' = 0 by rw [z']; decide), b, b', e1, e1']
      have hg : gs 0 = gs 1 ↔ ex = ex' := by
        rw [a, a']
        rcases hx with rfl | rfl <;> rcases hx' with rfl | rfl <;> decide
      by_cases q : ex = ex'
      · rw [if_pos (hg.mpr q), if_pos q]
      · rw [if_neg (fun z => q (hg.mp z)), if_neg q]
theorem n6_le {gs gm : Nat → Int32} {a c : Int32} : X9_copyOversE_n6 gs gm a c ≤ 4 := by unfold X9_copyOversE_n6 X9_copyOversE_n5 X9_copyOversE_n4 X9_copyOversE_n3 X9_copyOversE_n2 X9_copyOversE_n1 X9_copyOversE_n0; repeat (first | omega | split)
theorem has_in {ix : Int32} (h : JRW b st ex ln gz gs gm gw gf) (hh : ¬ X4_has_x2 st ln ix = 0) : ∃ kx, kx < 20 ∧ ix = nI kx ∧ vf_n32 (gz kx) := by
  obtain ⟨n, n1, n2, n3, n4⟩ := h
  unfold X4_has_x2 X4_has_x1 X4_has_x0 at hh
  by_cases q0 : st = 0
  · rw [if_pos q0] at hh; exact absurd rfl hh
  rw [if_neg q0] at hh
  by_cases q1 : ix < 0
  · rw [if_pos q1] at hh; exact absurd rfl hh
  rw [if_neg q1] at hh
  by_cases q2 : ln ≤ ix
  · rw [if_pos q2] at hh; exact absurd rfl hh
  rw [n2] at q2
  obtain ⟨kx, hk9, rfl⟩ := in_nat (x := ix) (n := n) (by omega) (Int32.not_lt.mp q1) (Int32.le_of_lt (Int32.not_le.mp q2))
  have hk : kx < n := by
    rcases Nat.lt_or_ge kx n with z | z
    · exact z
    · exact absurd ((nI_leI (a := n) (b := kx) (by omega) (by omega)).mpr z) q2
  rcases n4 with ⟨a, -⟩ | ⟨-, -, -, a4⟩
  · exact absurd a q0
  · exact ⟨kx, by omega, rfl, (a4 kx hk).1⟩
theorem has_no {ix : Int32} (h : JRW b st ex ln gz gs gm gw gf) (h2 : X8_isWithin_x1 ix 0 20 = 0) : ¬ gs b = 0 → X9_isIn_x1 ix 0 ((gm b) - 1) = 0 := by
  intro h0
  obtain ⟨n, n1, n2, n3, n4⟩ := h
  rcases n4 with ⟨-, a⟩ | ⟨-, -, a3, -⟩
  · exact absurd a h0
  · rw [a3]
    refine (wi_ne (x := ix) (a := 0) (b := nI n - 1)).mpr (fun z => ?_)
    refine (wi_ne (x := ix) (a := 0) (b := 20)).mp h2 ⟨z.1, ?_⟩
    cases n with
    | zero => exact absurd (Int32.le_trans z.1 z.2) (by decide)
    | succ n =>
      have e : nI (n + 1) - 1 = nI n := nI_sb (a := n + 1) (b := 1) (by omega)
      rw [e] at z
      exact Int32.le_trans z.2 ((nI_leI (a := n) (b := 20) (by omega) (by omega)).mpr (by omega))
end RWS
def RO2 (AD : Nat → Nat) (cy : Nat → ClassId) (u : Hf) (st ex1 ln st' ex1' ln' : Int32) (gz gy : Nat → UInt32) (gs gm gw : Nat → Int32) (gf : Nat → UInt32) : Prop := RW AD cy 121 u st ex1 ln gz ∧ RW AD cy 123 u st' ex1' ln' gy ∧ RRW AD cy u gs gm gw gf
def RSM (AD : Nat → Nat) (cy : Nat → ClassId) (q2 : Nat → Option Nat) (u : Hf) (hi : Int32) (tl k : Nat) : Prop := SVG AD cy u hi tl k ∧ TXG AD cy u tl ∧ JNK AD cy q2 u ∧ ∃ od, OUD AD cy u od
theorem RSM_fr {AD : Nat → Nat} {q2 : Nat → Option Nat} {cy : Nat → ClassId} {f u : Hf} {I : Nat → Prop} {hi : Int32} {tl k k2 : Nat} (h : FR AD f u I) (hn : ∀ i, (55 ≤ i ∧ i ≤ 108) ∨ (113 ≤ i ∧ i ≤ 120) ∨ i = 127 ∨ i = 128 ∨ (131 ≤ i ∧ i ≤ 133) ∨ i = 139 → ¬ I i) (hk : k ≤ k2) (hx : RSM AD cy q2 f hi tl k) : RSM AD cy q2 u hi tl k2 := by
  obtain ⟨a1, a2, a4, od, a5⟩ := hx
  exact ⟨SVG_fr h (hn _ (by omega)) (hn _ (by omega)) (hn _ (by omega)) (hn _ (by omega)) (hn _ (by omega)) hk a1, TXG_fr h (hn _ (by omega)) (hn _ (by omega)) (hn _ (by omega)) (hn _ (by omega)) a2, JNK_fr h (fun i h1 h2 => hn _ (by omega)) (hn _ (by omega)) (hn _ (by omega)) a4, od, OUD_fr h (hn _ (by omega)) a5⟩
theorem fr_w {AD : Nat → Nat} {q q2 : Nat → Option Nat} {cy : Nat → ClassId} {f u : Hf} {i : Nat} {st ex ln : Int32} {gz : Nat → UInt32} (hA : AOK AD q q2) (hw : RW AD cy i f st ex ln gz) (h : hFrL f u [AD i, AD (i + 1)]) : FR AD f u (fun j => j = i ∨ j = i + 1) := by
  refine FR_mk hA h (fun y hy => ?_) (fun j hj => ?_)
  · simp only [List.mem_cons, List.not_mem_nil, or_false] at hy
    rcases hy with z | z
    · exact ⟨i, Or.inl rfl, z⟩
    · exact ⟨i + 1, Or.inr rfl, z⟩
  · rcases hj with z | z
    · subst z; exact nsc_r hw.1 (by decide)
    · subst z; exact nsc_a hw.2
theorem fr_w1 {AD : Nat → Nat} {q q2 : Nat → Option Nat} {cy : Nat → ClassId} {f u : Hf} {i : Nat} {st ex ln : Int32} {gz : Nat → UInt32} (hA : AOK AD q q2) (hw : RW AD cy i f st ex ln gz) (h : hFrL f u [AD (i + 1)]) : FR AD f u (fun j => j = i + 1) := by
  refine FR_mk hA h (fun y hy => ⟨i + 1, rfl, List.mem_singleton.mp hy⟩) (fun j hj => ?_)
  subst hj; exact nsc_a hw.2
def IW (i : Nat) : Prop := i = 125 ∨ (134 ≤ i ∧ i ≤ 137)
theorem fr_rw {AD : Nat → Nat} {q q2 : Nat → Option Nat} {cy : Nat → ClassId} {f u : Hf} {th re un hi tn fa rf : Int32} {gs gm gw : Nat → Int32} {gf : Nat → UInt32} (hA : AOK AD q q2) (hMc : MC AD f th re un hi tn fa rf) (hw : RRW AD cy f gs gm gw gf) (h : hFrL f u [AD 125, AD 134, AD 135, AD 136, AD 137]) : FR AD f u IW := by
  obtain ⟨ps, pl, to, hm⟩ := hMc
  refine FR_mk hA h (fun y hy => ?_) (fun j hj => ?_)
  · simp only [List.mem_cons, List.not_mem_nil, or_false] at hy
    rcases hy with z | z | z | z | z
    · exact ⟨125, by unfold IW; omega, z⟩
    · exact ⟨134, by unfold IW; omega, z⟩
    · exact ⟨135, by unfold IW; omega, z⟩
    · exact ⟨136, by unfold IW; omega, z⟩
    · exact ⟨137, by unfold IW; omega, z⟩
  · have hj2 : j = 125 ∨ j = 134 ∨ j = 135 ∨ j = 136 ∨ j = 137 := by unfold IW at hj; omega
    rcases hj2 with z | z | z | z | z <;> subst z
    · exact nsc_r hm (by decide)
    · exact nsc_a hw.1
    · exact nsc_a hw.2.1
    · exact nsc_a hw.2.2.1
    · exact nsc_a hw.2.2.2
/-- between the two calls of storeOvers -/
def MIDW (AD : Nat → Nat) (cy : Nat → ClassId) (q q2 : Nat → Option Nat) (k : Nat) (row inn ex r : Int32) (u : Hf) : Prop := AOK AD q q2 ∧ ∃ (xa xr xk hi th : Int32) (tl w nS nC : Nat) (cm : Nat → Int32) (cs : Nat → Nat → Nat → Int32) (lo le lfi : Int32) (ge : Nat → Int32) (SS : Nat → Nat → Int32) (g gp gd : Nat → Int32) (o : Nat → Int64), XC AD u xa xr xk ∧ MC AD u th xk (nI w) hi (nI tl) xa xr ∧ CMN AD cy q u cm cs lo le lfi w nS nC ge SS ∧ RMN AD cy u g gp gd ∧ RSM AD cy q2 u hi tl k ∧ OUT AD cy u o ∧ JM cm cs lo le lfi w nS nC ge SS g gp gd ∧ nS + tl ≤ k ∧ ∃ (st ex1 ln st' ex1' ln' : Int32) (gz gy : Nat → UInt32) (gs gm gw : Nat → Int32) (gf : Nat → UInt32), RO2 AD cy u st ex1 ln st' ex1' ln' gz gy gs gm gw gf ∧ ((r = 1 ∧ (X8_isWithin_x1 row 0 1 = 0 ∨ X2_hasBegun_x2 (cm 0) (cm 4) inn = 0) ∧ JRW 0 st ex1 ln gz gs gm gw gf ∧ JRW 1 st' ex1' ln' gy gs gm gw gf) ∨ (r = 0 ∧ ∃ j oc bg, BGN cs g inn j oc bg ∧ o 0 = (nI (oc + bg)).toInt64 ∧ ((row = 0 ∧ STD ex (oc + bg) (X9_storeOvers0_x3 g j oc) st ex1 ln gz ∧ JRW 1 st' ex1' ln' gy gs gm gw gf) ∨ (row = 1 ∧ STD ex (oc + bg) (X9_storeOvers0_x3 g j oc) st' ex1' ln' gy ∧ JRW 0 st ex1 ln gz gs gm gw gf))))
/-- between the two calls of copyOvers -/
def MIDC (AD : Nat → Nat) (cy : Nat → ClassId) (q q2 : Nat → Option Nat) (k : Nat) (row cnt r : Int32) (u : Hf) : Prop := AOK AD q q2 ∧ ∃ (xa xr xk hi th : Int32) (tl w nS nC : Nat) (cm : Nat → Int32) (cs : Nat → Nat → Nat → Int32) (lo le lfi : Int32) (ge : Nat → Int32) (SS : Nat → Nat → Int32) (g gp gd : Nat → Int32) (o : Nat → Int64), XC AD u xa xr xk ∧ MC AD u th xk (nI w) hi (nI tl) xa xr ∧ CMN AD cy q u cm cs lo le lfi w nS nC ge SS ∧ RMN AD cy u g gp gd ∧ RSM AD cy q2 u hi tl k ∧ OUT AD cy u o ∧ JM cm cs lo le lfi w nS nC ge SS g gp gd ∧ nS + tl ≤ k ∧ ∃ (st ex1 ln st' ex1' ln' : Int32) (gz gy : Nat → UInt32) (gs gm gw : Nat → Int32) (gf : Nat → UInt32), RO2 AD cy u st ex1 ln st' ex1' ln' gz gy gs gm gw gf ∧ ((¬ X9_copyOversE_n6 gs gm row cnt = 0 ∧ r = nI (X9_copyOversE_n6 gs gm row cnt) ∧ JRW 0 st ex1 ln gz gs gm gw gf ∧ JRW 1 st' ex1' ln' gy gs gm gw gf) ∨ (X9_copyOversE_n6 gs gm row cnt = 0 ∧ r = 0 ∧ ∃ cn, cn ≤ 20 ∧ cnt = nI cn ∧ ¬ st = 0 ∧ ¬ st' = 0 ∧ ex1 = ex1' ∧ nI cn ≤ ln ∧ nI cn ≤ ln' ∧ ((row = 0 ∧ ∃ g0 : Nat → UInt32, gy = cpoF g0 0 gz cn ∧ JRW 0 st ex1 ln gz gs gm gw gf ∧ JRW 1 st' ex1' ln' g0 gs gm gw gf ∧ o 0 = (if tkC g0 gz cn = 0 then 0 else 1)) ∨ (row = 1 ∧ ∃ g0 : Nat → UInt32, gz = cpoF g0 0 gy cn ∧ JRW 0 st ex1 ln g0 gs gm gw gf ∧ JRW 1 st' ex1' ln' gy gs gm gw gf ∧ o 0 = (if tkC g0 gy cn = 0 then 0 else 1)))))
