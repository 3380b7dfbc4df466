/-! THE WHOLE MATCH, program (cm, cs) and reference (g) ALIKE -/
def inJ (j sb rp p : Nat) : Prop := p = 14 + j ∨ p = 18 + j ∨ (25 + 11 * j ≤ p ∧ p < 36 + 11 * j) ∨ (69 + 66 * j ≤ p ∧ p < 135 + 66 * j) ∨ (333 + 77 * j ≤ p ∧ p < 410 + 77 * j) ∨ (641 + 30 * j ≤ p ∧ p < 671 + 30 * j) ∨ (761 + 20 * j ≤ p ∧ p < 781 + 20 * j) ∨ (841 + 8 * sb ≤ p ∧ p < 841 + 8 * (sb + rp))
theorem SIM_fr {c : Nat → Nat → Int32} {g q : Nat → Int32} {j sb rp rf oc : Nat} (h : SIM c g j sb rp rf oc) (hq : ∀ p, inJ j sb rp p → q p = g p) : SIM c q j sb rp rf oc := by
  obtain ⟨t0, t1, t2, t3, t4, t5, r3, r4, o2, o8, o9, o7, o6, o1⟩ := h
  have eW : ∀ (b0 m : Nat), (∀ k, k < m → inJ j sb rp (b0 + k)) → Wn b0 m q = Wn b0 m g := fun b0 m hb0 => by
    funext k
    unfold Wn
    split
    · exact hq _ (hb0 k (by assumption))
    · rfl
  refine ⟨?_, ?_, ?_, ?_, ?_, ?_, r3, r4, o2, (hq _ (by unfold inJ; omega)).trans o8, (hq _ (by unfold inJ; omega)).trans o9, o7.trans (hq _ (by unfold inJ; omega)).symm, o6.trans (hq _ (by unfold inJ; omega)).symm, o1.trans (hq _ (by unfold inJ; omega)).symm⟩
  · rw [eW _ _ (fun k hk => by unfold inJ; omega)]; exact t0
  · rw [eW _ _ (fun k hk => by unfold inJ; omega)]; exact t1
  · rw [eW _ _ (fun k hk => by unfold inJ; omega)]; exact t2
  · rw [eW _ _ (fun k hk => by unfold inJ; omega)]; exact t3
  · rw [eW _ _ (fun k hk => by unfold inJ; omega)]; exact t4
  · rw [eW _ _ (fun k hk => by unfold inJ; omega)]; exact t5
/-- an innings that has begun -/
def PAST1 (c : Nat → Nat → Int32) (g : Nat → Int32) (j sb rp rf oc k : Nat) (e : Int32) : Prop := SIM c g j sb rp rf oc ∧ 1 ≤ rp ∧ rf ≤ 10 ∧ oc ≤ 20 ∧ (c 7 0 = 1 ∧ c 7 1 = 11 ∧ c 7 2 = 11) ∧ (∃ t, t ≤ 7 * k ∧ c 0 0 = nI t) ∧ (e = 1 → ∃ r, 1 ≤ r ∧ r ≤ 144000 ∧ c 6 8 = nI r) ∧ (c 6 7 = 0 ∨ (c 6 7 = 1 ∧ oc < 20)) ∧ c 0 1 = nI rf
theorem PAST1_fr {c : Nat → Nat → Int32} {g q : Nat → Int32} {j sb rp rf oc k k2 : Nat} {e : Int32} (h : PAST1 c g j sb rp rf oc k e) (hk : k ≤ k2) (hq : ∀ p, inJ j sb rp p → q p = g p) : PAST1 c q j sb rp rf oc k2 e := by
  obtain ⟨a1, a2, a3, a4, a5, ⟨t, t1, t2⟩, a7⟩ := h
  exact ⟨SIM_fr a1 hq, a2, a3, a4, a5, ⟨t, by omega, t2⟩, a7⟩
theorem MIDR_past {c : Nat → Nat → Int32} {g : Nat → Int32} {i sb rp rf oc k : Nat} {e ov : Int32} (h : MIDR c g i sb rp rf oc k e ov) : PAST1 c g i sb rp rf oc k e := by
  obtain ⟨hs, hn, hr1, hrf, hoc, hbw9, ⟨bl, t, L, hbl, ht, hL, hocL, ⟨h7, h0, h07, h01, h02, h65, h60, h67, h67b, he2, he1⟩⟩, hbat⟩ := h
  refine ⟨hs, hr1, hrf, hoc, h7, ⟨t, ht, h0⟩, fun q => ?_, h67, h01⟩
  obtain ⟨r, r1, r2, r3, r4⟩ := he1 q
  exact ⟨r, r4, r2, r1⟩
/-- the runs of the last innings don't reach the target -/
def LTG (cm : Nat → Int32) (cs : Nat → Nat → Nat → Int32) (c : Nat → Nat → Int32) : Prop := (cm 2 = 1 → cm 4 = 1 → c 0 0 < X2_target1_x0 (cs 0 6 8) (cs 0 0) (c 6 8)) ∧ (cm 2 = 2 → cm 4 = 3 → c 0 0 < X2_target2_r0 (cs 0 0) (cs 1 0) (cs 2 0))
def BASE (cm : Nat → Int32) (g : Nat → Int32) (n k : Nat) (ov : Int32) : Prop := n < 4 ∧ cm 4 = nI n ∧ VAR cm ∧ cm 0 = 1 ∧ g 0 = 1 ∧ g 1 = cm 2 ∧ g 2 = cm 3 ∧ g 3 = ov ∧ g 4 = nI n ∧ g 23 = nI k
def SUMS (SB RP : Nat → Nat) (n k : Nat) : Prop := SB 0 = 0 ∧ (∀ j, j < n → SB (j + 1) = SB j + RP j) ∧ SB n + RP n ≤ k + n + 1
def RRn (cm : Nat → Int32) (cs : Nat → Nat → Nat → Int32) (g : Nat → Int32) (ov : Int32) (k n : Nat) (SB RP RF OC : Nat → Nat) : Prop :=
  BASE cm g n k ov ∧ SUMS SB RP n k ∧ (∀ j, j ≤ n → PAST1 (cs j) g j (SB j) (RP j) (RF j) (OC j) k (cm 2)) ∧ (∀ j, n < j → j < 4 → ZER g j) ∧ g 22 = nI (SB n + RP n) ∧ g 5 = cm 1 ∧ (cm 1 = 0 ∨ cm 1 = 1) ∧
  (cm 1 = 0 → MIDR (cs n) g n (SB n) (RP n) (RF n) (OC n) k (cm 2) ov ∧ cs n 6 12 = 0 ∧ ¬ cs n 6 0 = cs n 6 2 ∧ LTG cm cs (cs n))
def RR (cm : Nat → Int32) (cs : Nat → Nat → Nat → Int32) (g : Nat → Int32) (ov : Int32) (k : Nat) : Prop := ∃ n SB RP RF OC, RRn cm cs g ov k n SB RP RF OC
def fu (f : Nat → Nat) (n v : Nat) : Nat → Nat := fun j => if j = n then v else f j
theorem fu_at {f : Nat → Nat} {n v : Nat} : fu f n v n = v := if_pos rfl
theorem fu_off {f : Nat → Nat} {n v j : Nat} (h : j ≠ n) : fu f n v j = f j := if_neg h
/-- at least one partnership to an innings -/
theorem SUMS_ge {SB RP : Nat → Nat} {n k : Nat} (h : SUMS SB RP n k) (hr : ∀ j, j ≤ n → 1 ≤ RP j) : ∀ j, j ≤ n → j ≤ SB j := by
  intro j
  induction j with
  | zero => intro _; omega
  | succ j ih =>
    intro hj
    rw [h.2.1 j (by omega)]
    have := ih (by omega)
    have := hr j (by omega)
    omega
theorem SUMS_le {SB RP : Nat → Nat} {n k : Nat} (h : SUMS SB RP n k) : ∀ d j, j + d ≤ n → SB j ≤ SB (j + d) := by
  intro d
  induction d with
  | zero => intro j _; exact Nat.le_refl _
  | succ d ih =>
    intro j hj
    have h1 := ih j (by omega)
    have h2 := h.2.1 (j + d) (by omega)
    rw [show j + (d + 1) = j + d + 1 by omega, h2]
    omega
theorem SUMS_lt {SB RP : Nat → Nat} {n k j : Nat} (h : SUMS SB RP n k) (hj : j < n) : SB j + RP j ≤ SB n := by
  have h1 := SUMS_le h (n - (j + 1)) (j + 1) (by omega)
  rw [show j + 1 + (n - (j + 1)) = n by omega, h.2.1 j hj] at h1
  exact h1
/-- an earlier innings is no concern of what is written in the present one -/
theorem inJ_out {SB RP : Nat → Nat} {n k j p s : Nat} (hn : n < 4) (h : SUMS SB RP n k) (hj : j < n) (hs : SB n + 1 ≤ s) (hp : inJ j (SB j) (RP j) p) : OUTR n s p ∧ p ≠ 5 ∧ p ≠ 23 ∧ p ≠ 4 := by
  have h1 := SUMS_lt h hj
  unfold inJ at hp
  unfold OUTR
  omega
theorem ZER_fr {g q : Nat → Int32} {n s j : Nat} (hn : n < j) (hj : j < 4) (h : ZER g j) (hq : ∀ p, OUTR n s p → p ≠ 5 → p ≠ 23 → p ≠ 4 → q p = g p) : ZER q j := by
  obtain ⟨z0, z1, z2⟩ := h
  refine ⟨fun k hk => ?_, fun k hk => ?_, fun k hk => ?_⟩
  · rw [hq _ (by unfold OUTR; omega) (by omega) (by omega) (by omega)]; exact z0 k hk
  · rw [hq _ (by unfold OUTR; omega) (by omega) (by omega) (by omega)]; exact z1 k hk
  · rw [hq _ (by unfold OUTR; omega) (by omega) (by omega) (by omega)]; exact z2 k hk
/-! the end of an innings, looked for -/
theorem x2_eq {c : Nat → Nat → Int32} {g : Nat → Int32} {i sb rp rf oc L : Nat} {ty : Int32} (hs : SIM c g i sb rp rf oc) (hn : NOWR c g sb rp) (h60 : c 6 0 = nI L) (hL : L ≤ 20) (hoc : oc ≤ L) : X9_looks_x2 g (c 6 12) (X2_perform01_x21 ty) i = DUE0 c ty := by
  unfold X9_looks_x2 DUE0 X2_dueEnd01_x0 X9_looks_x1 X0_ending_r1 X9_looks_x0 X0_ending_x0
  have o2 : c 6 2 = nI oc := hs.2.2.2.2.2.2.2.2.1
  have o8 : g (25 + 11 * i + 8) = nI oc := hs.2.2.2.2.2.2.2.2.2.1
  rw [o8, o2, ← hn.1, h60]
  by_cases hl : oc < L
  · have n1 : ¬ nI oc = nI L := fun q => by have := (nI_eq (by omega) (by omega)).mp q; omega
    have n2 : nI oc < nI L := (nI_ltI (by omega) (by omega)).mpr hl
    rw [if_neg n1, if_pos n2]
  · have e : oc = L := by omega
    have n1 : nI oc = nI L := by rw [e]
    have n2 : ¬ nI oc < nI L := fun q => hl ((nI_ltI (by omega) (by omega)).mp q)
    rw [if_pos n1, if_neg n2]
theorem pos64 {r : Nat} (h : 1 ≤ r) (h2 : r ≤ 144000) : (0 : Int64) < (nI r).toInt64 := by
  rw [nI_l (show r < 2 ^ 31 by omega)]
  exact (lN_lt (a := 0) (b := r) (by omega) (by omega)).mpr (by omega)
/-- the reference looks for the same end -/
theorem due_eq {cm : Nat → Int32} {cs : Nat → Nat → Nat → Int32} {S g : Nat → Int32} {n sb rp rf oc L k : Nat} {SB RP RF OC : Nat → Nat} (hV : VAR cm) (h4 : cm 4 = nI n) (hn4 : n < 4) (hp : ∀ j, j < n → PAST1 (cs j) g j (SB j) (RP j) (RF j) (OC j) k (cm 2)) (hs : SIM (INN (cs n) S) g n sb rp rf oc) (hn : NOWR (INN (cs n) S) g sb rp) (h60 : INN (cs n) S 6 0 = nI L) (hL : L ≤ 20) (hoc : oc ≤ L) : X9_looks_x4 g (INN (cs n) S 6 12) (X2_perform01_x21 (S 0)) n (cm 2).toNatClampNeg = DUE cm cs S := by
  have k2 := x2_eq (ty := S 0) hs hn h60 hL hoc
  have r0 : g (25 + 11 * n + 0) = INN (cs n) S 0 0 := by rw [hs.1 0 (by omega), Wn_at (by omega)]
  have rj : ∀ j, j < n → cs j 0 0 = g (25 + 11 * j + 0) := fun j hj => by rw [(hp j hj).1.1 0 (by omega), Wn_at (by omega)]
  unfold X9_looks_x4 X9_looks_x3 DUE
  rw [k2, r0]
  rcases hV with ⟨l0, l1 | l1⟩ | ⟨l0, l1 | l1 | l1 | l1⟩
  · have e : n = 0 := (nI_eq (by omega) (by omega)).mp (h4.symm.trans l1)
    subst e
    rw [if_pos l0, if_pos l1, l0, if_neg (by decide)]
  · have e : n = 1 := (nI_eq (by omega) (by omega)).mp (h4.symm.trans l1)
    subst e
    obtain ⟨r, r1, r2, r3⟩ := (hp 0 (by omega)).2.2.2.2.2.2.1 l0
    have r14 : cs 0 6 8 = g 14 := (hp 0 (by omega)).1.2.2.2.2.2.2.2.2.2.2.2.2.1
    have t1 : X2_target1_x0 (cs 0 6 8) (cs 0 0) (INN (cs 1) S 6 8) = X9_target_r1 g 1 := tgt1 (rj 0 (by omega)) r14 hs.2.2.2.2.2.2.2.2.2.2.2.2.1 (by rw [← r14, r3]; exact pos64 r1 r2)
    have e2 : (cm 2).toNatClampNeg = 1 := by rw [l0]; decide
    rw [if_pos l0, if_neg (show ¬ cm 4 = 0 by rw [l1]; decide), e2, if_pos (show nI 1 = nI (2 * 1 - 1) from rfl), ← t1]
    unfold DUE1 X2_dueEnd11_r1
    rw [tg8 (c := 0) 0 rfl (by omega)]
    rfl
  · have e : n = 0 := (nI_eq (by omega) (by omega)).mp (h4.symm.trans l1)
    subst e
    rw [if_neg (show ¬ cm 2 = 1 by rw [l0]; decide), if_pos l1, l0, if_neg (by decide)]
  · have e : n = 1 := (nI_eq (by omega) (by omega)).mp (h4.symm.trans l1)
    subst e
    rw [if_neg (show ¬ cm 2 = 1 by rw [l0]; decide), if_neg (show ¬ cm 4 = 0 by rw [l1]; decide), if_pos l1, l0, if_neg (by decide)]
  · have e : n = 2 := (nI_eq (by omega) (by omega)).mp (h4.symm.trans l1)
    subst e
    rw [if_neg (show ¬ cm 2 = 1 by rw [l0]; decide), if_neg (show ¬ cm 4 = 0 by rw [l1]; decide), if_neg (show ¬ cm 4 = 1 by rw [l1]; decide), if_pos l1, l0, if_neg (by decide)]
  · have e : n = 3 := (nI_eq (by omega) (by omega)).mp (h4.symm.trans l1)
    subst e
    have t2 : X2_target2_r0 (cs 0 0) (cs 1 0) (cs 2 0) = X9_target_r1 g 2 := tgt2 (rj 0 (by omega)) (rj 1 (by omega)) (rj 2 (by omega))
    have e2 : (cm 2).toNatClampNeg = 2 := by rw [l0]; decide
    rw [if_neg (show ¬ cm 2 = 1 by rw [l0]; decide), if_neg (show ¬ cm 4 = 0 by rw [l1]; decide), if_neg (show ¬ cm 4 = 1 by rw [l1]; decide), if_neg (show ¬ cm 4 = 2 by rw [l1]; decide), e2, if_pos (show nI 3 = nI (2 * 2 - 1) from rfl), ← t2]
    unfold DUE3 X2_dueEnd32_r1
    rw [tg8 (c := 0) 0 rfl (by omega)]
    rfl
/-- the target of a match of two innings isn't reached before the first ball -/
theorem tgt1_pos {x : Nat → Int32} {r s t : Nat} (hx : x 0 = nI t) (ht : t ≤ 4000) (hr : 1 ≤ r) (hr2 : r ≤ 144000) (hs2 : s ≤ 144000) : 0 < X2_target1_x0 (nI r) x (nI s) := by
  unfold X2_target1_x0 X2_revisedTarget_r1 X2_revisedTarget_x0
  rw [tg8 (c := 0) 0 rfl (by omega), hx, nI_l (show t < 2 ^ 31 by omega), nI_l (show r < 2 ^ 31 by omega), nI_l (show s < 2 ^ 31 by omega)]
  have hq : ¬ lg_cmp (lN r) 0 ≤ 0 := fun q => by
    have h9 := (lg_cmp_le _ _).mp q
    have h8 := (pk_lLE (a := r) (b := 0) (by omega) (by omega)).mp h9
    omega
  have hm : t * s ≤ 4000 * 144000 := Nat.mul_le_mul ht hs2
  by_cases h : lg_cmp (lN s) (lN r) ≤ 0
  · have hsr : s ≤ r := (pk_lLE (by omega) (by omega)).mp ((lg_cmp_le _ _).mp h)
    rw [if_pos h, if_neg hq, lN_mul, pk_lDiv (by omega) (by omega) (by omega), lN_i]
    have hd : t * s / r ≤ t * s := Nat.div_le_self _ _
    generalize t * s / r = d at hd ⊢
    rw [show nI d + 1 = nI (d + 1) from nI_add _ 1]
    exact (nI_ltI (a := 0) (by omega) (by omega)).mpr (by omega)
  · have hsr : r ≤ s := by
      rcases Nat.lt_or_ge s r with q | q
      · exact absurd ((lg_cmp_le _ _).mpr ((pk_lLE (by omega) (by omega)).mpr (Nat.le_of_lt q))) h
      · exact q
    rw [if_neg h, lN_sub hsr, show (150 : Int64) = lN 150 from rfl, show (144000 : Int64) = lN 144000 from rfl, lN_mul, pk_lDiv (by omega) (by omega) (by omega), lN_add, lN_i]
    rw [show nI (t + 150 * (s - r) / 144000) + 1 = nI (t + 150 * (s - r) / 144000 + 1) from nI_add _ 1]
    exact (nI_ltI (a := 0) (by omega) (by omega)).mpr (by omega)
