/-! IS IT REPLAYED: the reference -/
set_option maxRecDepth 100000 in
theorem kR_isReplayed {l : Launch} (hfl : l.stackTraces = false) {D : va_G} {cy : Nat → ClassId} {f : Hf} {sz : Nat} {AD : Nat → Nat} {q q2 : Nat → Option Nat} {k : Nat} (h : MIDN AD cy q q2 k False f) : hMet l yX9_isReplayed cX9_isReplayed 3 (some .boolean) { frames := 6, cells := 0, slots := 0, locals := 158 } D (hTy cy) f sz [.ref (AD 125)] (hQi (fun b u => ∃ th o, WJ AD cy q q2 (k + 1) th o u) D f sz) hNo := by
  obtain ⟨hA, xa, xr, xk, hi, th, tl, w, nS, nC, cm, cs, lo, le, lfi, ge, SS, g, gp, gd, o, y, hX, hMc, hC, hRm, hRs, hO, hJ, hb, hc⟩ := h
  obtain ⟨ps, pl, to, hm⟩ := id hMc
  rcases JM_le hJ with ⟨-, z1, z2, -⟩ | ⟨-, z1, z2, hL⟩
  · have hy : y = 1 := by
      rcases hc with ⟨c1, -⟩ | ⟨-, -, c3⟩ | ⟨-, c2, -⟩
      · exact c1.elim
      · exact c3
      · exact absurd z1 c2
    subst hy
    refine h_conI (h_mono (k_X9_isReplayedN hfl hm hRm.1 (by unfold X9_hasMatch_r0; rw [z2]; rfl)) (Nat.le_of_ble_eq_true rfl) (Nat.le_of_ble_eq_true rfl) (Nat.le_of_ble_eq_true rfl) (Nat.le_of_ble_eq_true rfl)) ?_ (fun _ _ h => h)
    intro b u hp
    obtain ⟨-, em, ef⟩ := hp
    rw [show X9_hasMatch_x2 xk g = 1 from by unfold X9_hasMatch_x2; rw [z2]; rfl] at em
    have F := fr_o hA hMc ef
    exact ⟨_, o, hA, xa, xr, _, hi, tl, w, nS, nC, cm, cs, lo, le, lfi, ge, SS, g, gp, gd, XC_fr F (by omega) hX, ⟨_, _, _, em⟩, CMN_fr F (fun i h1 h2 => by omega) (by omega) (by omega) (by omega) hC, RMN_fr F (by omega) (by omega) (by omega) hRm, RST_fr F (fun i h => by omega) (by omega) hRs, OUT_fr F (by omega) hO, hJ, by omega⟩
  · have hy : y = xk := by
      rcases hc with ⟨c1, -⟩ | ⟨-, c2, -⟩ | ⟨-, -, c3⟩
      · exact c1.elim
      · exact absurd c2 z1
      · exact c3
    subst hy
    obtain ⟨⟨E, hE, -⟩, -⟩ := id hL
    have hn5 := hE.2.1
    obtain ⟨n, SB, RP, RF, OC, ⟨b1, b2, b3, b4, b5, b6, b7, b8, b9, b10⟩, hs, hp, hz, h22, -⟩ := JL_RR hL
    have hs3 := hs.2.2
    obtain ⟨s0, s1, s2, ⟨j1, ⟨gk, j2⟩, j3⟩, od, s4⟩ := id hRs
    refine h_conI (h_mono (k_X9_isReplayedY hfl (d := nS) (s := SB n + RP n) hm hRm.1 j2 hRm.2.2 (by unfold X9_hasMatch_r0; exact if_pos z2) b10 (by omega) h22 (by omega) (AD_ne hA (by omega)) (fun j hj => rp_ok hE j hj)) (Nat.le_of_ble_eq_true rfl) (Nat.le_of_ble_eq_true rfl) (Nat.le_of_ble_eq_true rfl) (Nat.le_of_ble_eq_true rfl)) ?_ (fun _ _ h => h)
    intro b u hp9
    obtain ⟨-, em, ek, ev, ed, ef⟩ := hp9
    rw [show X9_hasMatch_x2 y g = y from if_pos z2] at em
    have F : FR AD f u (fun i => i = 125 ∨ i = 128 ∨ i = 126 ∨ i = 130) := by
      refine FR_mk hA ef (fun y hy => ?_) (fun i hi9 => ?_)
      · simp only [List.mem_cons, List.not_mem_nil, or_false] at hy
        rcases hy with z | z | z | z
        · exact ⟨125, by omega, z⟩
        · exact ⟨128, by omega, z⟩
        · exact ⟨126, by omega, z⟩
        · exact ⟨130, by omega, z⟩
      · rcases hi9 with z | z | z | z
        · subst z; exact nsc_r hm (by decide)
        · subst z; exact nsc_a j2
        · subst z; exact nsc_a hRm.1
        · subst z; exact nsc_a hRm.2.2
    have hv : ∀ p, p < 6441 → X9_isReplayedY_g5 g gk gd nS p = g p := fun p hp => (cps_at hp).trans (cps_at hp)
    exact ⟨_, o, hA, xa, xr, _, hi, tl, w, nS, nC, cm, cs, lo, le, lfi, ge, SS, _, gp, gd, XC_fr F (by omega) hX, ⟨_, _, _, em⟩, CMN_fr F (fun i h1 h2 => by omega) (by omega) (by omega) (by omega) hC, ⟨ev, IA_fr F (by omega) hRm.2.1, ed⟩, ⟨SVG_fr F (by omega) (by omega) (by omega) (by omega) (by omega) (by omega) s0, TXG_fr F (by omega) (by omega) (by omega) (by omega) s1, ROG_fr F (fun i h1 h2 => by omega) (fun i h1 h2 => by omega) s2, ⟨by obtain ⟨cm2, cs2, m2⟩ := j1; exact ⟨cm2, cs2, MW_FR F (fun i h1 h2 => by omega) m2⟩, ⟨_, ek⟩, by obtain ⟨gq, m2⟩ := j3; exact ⟨gq, IA_fr F (by omega) m2⟩⟩, od, OUD_fr F (by omega) s4⟩, OUT_fr F (by omega) hO, Or.inr (JL_cp hL hv (fun _ _ => rfl)), by omega⟩
