/-! an innings that ends: its row of how it ended -/
theorem SIM_7 {c d : Nat → Nat → Int32} {g : Nat → Int32} {v : Int32} {i sb rp rf oc : Nat} (hi : i < 4) (hrf : rf ≤ 10) (hoc : oc ≤ 20) (h : SIM c g i sb rp rf oc) (e0 : EQ 8 (d 0) (upd (c 0) 7 v)) (et : ∀ t, t ≠ 0 → t ≠ 6 → d t = c t) (e6 : ∀ p, p ≠ 11 → d 6 p = c 6 p) : SIM d (upd g (25 + 11 * i + 7) v) i sb rp rf oc := by
  obtain ⟨t0, t1, t2, t3, t4, t5, r3, r4, o2, o8, o9, o7, o6, o1⟩ := h
  refine ⟨?_, ?_, ?_, ?_, ?_, ?_, ?_, ?_, ?_, (upd_off (by omega)).trans o8, (upd_off (by omega)).trans o9, ?_, ?_, ?_⟩
  · rw [Wn_in (by omega)]
    intro k hk
    rw [e0 k hk]
    exact EQ_upd t0 rfl k hk
  · rw [Wn_out (by omega), et 1 (by omega) (by omega)]; exact t1
  · rw [Wn_out (by omega), et 2 (by omega) (by omega)]; exact t2
  · rw [Wn_out (by omega), et 3 (by omega) (by omega)]; exact t3
  · rw [Wn_out (by omega), et 4 (by omega) (by omega)]; exact t4
  · rw [Wn_out (by omega), et 5 (by omega) (by omega)]; exact t5
  · rw [et 7 (by omega) (by omega)]; exact r3
  · rw [et 7 (by omega) (by omega)]; exact r4
  · rw [e6 2 (by omega)]; exact o2
  · rw [e6 7 (by omega), upd_off (by omega)]; exact o7
  · rw [e6 8 (by omega), upd_off (by omega)]; exact o6
  · rw [e6 1 (by omega), upd_off (by omega)]; exact o1
theorem FIN_t {c : Nat → Nat → Int32} {e : Int32} {t : Nat} (h0 : t ≠ 0) (h6 : t ≠ 6) : FIN c e t = c t := by
  match t, h0, h6 with
  | 0, h, _ => exact absurd rfl h
  | 1, _, _ => rfl
  | 2, _, _ => rfl
  | 3, _, _ => rfl
  | 4, _, _ => rfl
  | 5, _, _ => rfl
  | 6, _, h => exact absurd rfl h
  | t + 7, _, _ => rfl
theorem FIN_6 {c : Nat → Nat → Int32} {e : Int32} {p : Nat} (h : p ≠ 11) : FIN c e 6 p = c 6 p := by
  match p, h with
  | 0, _ => rfl
  | 1, _ => rfl
  | 2, _ => rfl
  | 3, _ => rfl
  | 4, _ => rfl
  | 5, _ => rfl
  | 6, _ => rfl
  | 7, _ => rfl
  | 8, _ => rfl
  | 9, _ => rfl
  | 10, _ => rfl
  | 11, h => exact absurd rfl h
  | p + 12, _ => rfl
theorem FIN_0 {c : Nat → Nat → Int32} {e : Int32} : FIN c e 0 = upd (c 0) 7 e := ts8 (c := 7) 7 rfl (by omega)
theorem PAST1_fin {c : Nat → Nat → Int32} {g : Nat → Int32} {v : Int32} {i sb rp rf oc k : Nat} {e : Int32} (hi : i < 4) (h : PAST1 c g i sb rp rf oc k e) : PAST1 (FIN c v) (upd g (25 + 11 * i + 7) v) i sb rp rf oc k e := by
  obtain ⟨a1, a2, a3, a4, a5, ⟨t, t1, t2⟩, a7, a8, a9⟩ := h
  refine ⟨SIM_7 hi a3 a4 a1 (by rw [FIN_0]; exact EQ_rf) (fun t h1 h2 => FIN_t h1 h2) (fun p h => FIN_6 h), a2, a3, a4, a5, ⟨t, t1, ?_⟩, a7, a8, ?_⟩
  · rw [FIN_0, upd_off (by omega)]; exact t2
  · rw [FIN_0, upd_off (by omega)]; exact a9
theorem DUE0_0 {c : Nat → Nat → Int32} {ty : Int32} (h : DUE0 c ty = 0) : c 6 12 = 0 ∧ ¬ c 6 0 = c 6 2 := by
  unfold DUE0 X2_dueEnd01_x0 at h
  by_cases h1 : X2_perform01_x21 ty = 0
  · rw [if_pos h1] at h
    unfold X0_ending_r1 at h
    by_cases h2 : c 6 12 = 0
    · rw [if_pos h2] at h
      refine ⟨h2, fun q => ?_⟩
      unfold X0_ending_x0 at h
      rw [if_neg (by rw [q]; exact fun z => Int32.lt_irrefl z)] at h
      exact absurd h (by decide)
    · rw [if_neg h2] at h
      exact absurd h (by decide)
  · rw [if_neg h1] at h
    exact absurd h (by decide)
/-- the innings goes on: what that says -/
theorem DUE_0 {cm : Nat → Int32} {cs : Nat → Nat → Nat → Int32} {S : Nat → Int32} {n : Nat} (hV : VAR cm) (h4 : cm 4 = nI n) (hn4 : n < 4) (h : DUE cm cs S = 0) : INN (cs n) S 6 12 = 0 ∧ ¬ INN (cs n) S 6 0 = INN (cs n) S 6 2 ∧ LTG cm cs (INN (cs n) S) := by
  unfold DUE at h
  rcases hV with ⟨l0, l1 | l1⟩ | ⟨l0, l1 | l1 | l1 | l1⟩
  · have e : n = 0 := (nI_eq (by omega) (by omega)).mp (h4.symm.trans l1)
    subst e
    rw [if_pos l0, if_pos l1] at h
    exact ⟨(DUE0_0 h).1, (DUE0_0 h).2, fun _ q => absurd (l1.symm.trans q) (by decide), fun q _ => absurd (l0.symm.trans q) (by decide)⟩
  · have e : n = 1 := (nI_eq (by omega) (by omega)).mp (h4.symm.trans l1)
    subst e
    rw [if_pos l0, if_neg (show ¬ cm 4 = 0 by rw [l1]; decide)] at h
    unfold DUE1 X2_dueEnd11_r1 at h
    rw [tg8 (c := 0) 0 rfl (by omega)] at h
    by_cases hl : INN (cs 1) S 0 0 < X2_target1_x0 (cs 0 6 8) (cs 0 0) (INN (cs 1) S 6 8)
    · rw [if_pos hl] at h
      have h' : DUE0 (INN (cs 1) S) (S 0) = 0 := h
      exact ⟨(DUE0_0 h').1, (DUE0_0 h').2, fun _ _ => hl, fun q _ => absurd (l0.symm.trans q) (by decide)⟩
    · rw [if_neg hl] at h
      exact absurd h (by decide)
  · have e : n = 0 := (nI_eq (by omega) (by omega)).mp (h4.symm.trans l1)
    subst e
    rw [if_neg (show ¬ cm 2 = 1 by rw [l0]; decide), if_pos l1] at h
    exact ⟨(DUE0_0 h).1, (DUE0_0 h).2, fun q _ => absurd (l0.symm.trans q) (by decide), fun _ q => absurd (l1.symm.trans q) (by decide)⟩
  · have e : n = 1 := (nI_eq (by omega) (by omega)).mp (h4.symm.trans l1)
    subst e
    rw [if_neg (show ¬ cm 2 = 1 by rw [l0]; decide), if_neg (show ¬ cm 4 = 0 by rw [l1]; decide), if_pos l1] at h
    exact ⟨(DUE0_0 h).1, (DUE0_0 h).2, fun q _ => absurd (l0.symm.trans q) (by decide), fun _ q => absurd (l1.symm.trans q) (by decide)⟩
  · have e : n = 2 := (nI_eq (by omega) (by omega)).mp (h4.symm.trans l1)
    subst e
    rw [if_neg (show ¬ cm 2 = 1 by rw [l0]; decide), if_neg (show ¬ cm 4 = 0 by rw [l1]; decide), if_neg (show ¬ cm 4 = 1 by rw [l1]; decide), if_pos l1] at h
    exact ⟨(DUE0_0 h).1, (DUE0_0 h).2, fun q _ => absurd (l0.symm.trans q) (by decide), fun _ q => absurd (l1.symm.trans q) (by decide)⟩
  · have e : n = 3 := (nI_eq (by omega) (by omega)).mp (h4.symm.trans l1)
    subst e
    rw [if_neg (show ¬ cm 2 = 1 by rw [l0]; decide), if_neg (show ¬ cm 4 = 0 by rw [l1]; decide), if_neg (show ¬ cm 4 = 1 by rw [l1]; decide), if_neg (show ¬ cm 4 = 2 by rw [l1]; decide)] at h
    unfold DUE3 X2_dueEnd32_r1 at h
    rw [tg8 (c := 0) 0 rfl (by omega)] at h
    by_cases hl : INN (cs 3) S 0 0 < X2_target2_r0 (cs 0 0) (cs 1 0) (cs 2 0)
    · rw [if_pos hl] at h
      have h' : DUE0 (INN (cs 3) S) (S 0) = 0 := h
      exact ⟨(DUE0_0 h').1, (DUE0_0 h').2, fun q _ => absurd (l0.symm.trans q) (by decide), fun _ _ => hl⟩
    · rw [if_neg hl] at h
      exact absurd h (by decide)
theorem MIDR_7 {c : Nat → Nat → Int32} {g : Nat → Int32} {i sb rp rf oc k : Nat} {e ov : Int32} (hi : i < 4) (h : MIDR c g i sb rp rf oc k e ov) : MIDR c (upd g (25 + 11 * i + 7) 0) i sb rp rf oc k e ov := by
  obtain ⟨hs, hn, hr1, hrf, hoc, hbw9, ⟨bl, t, L, hbl, ht, hL, hocL, hcf⟩, hbat⟩ := h
  have h7 : c 0 7 = 0 := hcf.2.2.1
  obtain ⟨n0, n3, n4, n5, n6, n9, n10, n11, n22⟩ := hn
  refine ⟨SIM_7 hi hrf hoc hs ?_ (fun _ _ _ => rfl) (fun _ _ => rfl), ⟨n0.trans (upd_off (by omega)).symm, n3.trans (upd_off (by omega)).symm, n4.trans (upd_off (by omega)).symm, n5.trans (upd_off (by omega)).symm, n6.trans (upd_off (by omega)).symm, n9.trans (upd_off (by omega)).symm, n10.trans (upd_off (by omega)).symm, n11.trans (upd_off (by omega)).symm, (upd_off (by omega)).trans n22⟩, hr1, hrf, hoc, hbw9, ⟨bl, t, L, hbl, ht, hL, hocL, hcf⟩, hbat⟩
  intro j hj
  rw [upd_ap]
  by_cases q : j = 7
  · rw [if_pos q, q]; exact h7
  · rw [if_neg q]
/-- an innings that has just started -/
theorem MIDR_sta {c : Nat → Nat → Int32} {g : Nat → Int32} {j sb L k : Nat} {hr e ov : Int32} (hj : j < 4) (hz : ZER g j) (hL : 1 ≤ L ∧ L ≤ 20) (hlm : nI L = X9_opens_g10 g j 13) (hres : X0_start_x11 (c 0) (nI L) hr = X9_opens_x12 g j) (he : e = 1 → hr = 1) (hov : e = 2 → nI L = ov) : MIDR (STA c (nI L) hr) (X9_opens_g37 g j sb) j sb 1 0 0 k e ov ∧ (e = 1 → STA c (nI L) hr 6 8 = nI (10 * fR (6 * L))) := by
  obtain ⟨s1, n1⟩ := sim_STA (c := c) (sb := sb) hj hz hlm hres
  have k8 : e = 1 → STA c (nI L) hr 6 8 = nI (10 * fR (6 * L)) := by
    intro q
    show X0_start_x11 (c 0) (nI L) hr = _
    have z1 : tget 8 1 8 (zf (c 0) 0 (1 * 8)) 0 1 = nI 0 := (tg8 (c := 1) 1 rfl (by omega)).trans (by unfold zf; rw [if_pos (by omega)]; rfl)
    have z2 : tget 8 1 8 (zf (c 0) 0 (1 * 8)) 0 2 = nI 0 := (tg8 (c := 2) 2 rfl (by omega)).trans (by unfold zf; rw [if_pos (by omega)]; rfl)
    unfold X0_start_x11 X0_value_r0
    rw [he q, if_neg (by decide), z1, z2, show (6 : Int32) * nI L = nI (6 * L) from pk_mul 6 L, nI_sb (show 0 ≤ 6 * L by omega)]
    exact val_nI (rf := 0) (l := 6 * L) (by omega) (by omega)
  have zz : ∀ p, p < 8 → STA c (nI L) hr 0 p = 0 := fun p hp => by
    show zf (c 0) 0 (1 * 8) p = 0
    unfold zf
    rw [if_pos (by omega)]
  refine ⟨⟨s1, n1, by omega, by omega, by omega, Or.inl rfl, ⟨0, 0, L, by omega, by omega, hL, by omega, ⟨⟨rfl, rfl, rfl⟩, zz 0 (by omega), zz 7 (by omega), zz 1 (by omega), zz 2 (by omega), rfl, rfl, Or.inl rfl, fun _ => rfl, hov, fun q => ⟨_, k8 q, ?_, ?_, ?_⟩⟩⟩, Or.inl ⟨rfl, BAT_start, ?_⟩⟩, k8⟩
  · have := fR_120 (l := 6 * L) (by omega)
    omega
  · show 10 * fR (6 * L - (6 * 0 + 0)) ≤ 10 * fR (6 * L)
    rw [show 6 * L - (6 * 0 + 0) = 6 * L by omega]
    exact Nat.le_refl _
  · have := fR_pos (l := 6 * L) (by omega) (by omega)
    omega
  · show X0_beginPartnership_g2 0 (zf (c 3) 0 (0 * 8)) 0 1 2 = mn 0 1
    unfold X0_beginPartnership_g2 X0_beginPartnership_g1 X0_beginPartnership_g0
    rw [tsP (c := 7) (r := 0 + 1) (q := 0) (k := 7) (by omega) (by omega) rfl (by omega), upd_off (by omega), tsP (c := 3) (r := 0 + 1) (q := 0) (k := 3) (by omega) (by omega) rfl (by omega), upd_off (by omega), tsP (c := 2) (r := 0 + 1) (q := 0) (k := 2) (by omega) (by omega) rfl (by omega)]
    rfl
