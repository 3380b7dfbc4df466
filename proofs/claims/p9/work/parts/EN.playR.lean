def IPM (i : Nat) : Prop := i = 125 ∨ i = 133
theorem fr_pm {AD : Nat → Nat} {q q2 : Nat → Option Nat} {cy : Nat → ClassId} {f u : Hf} {th xk hi xa xr : Int32} {w tl : Nat} {gq : Nat → Int32} (hA : AOK AD q q2) (hMc : MC AD f th xk (nI w) hi (nI tl) xa xr) (hq : IA AD cy f 133 240 gq) (h : hFrL f u [AD 125, AD 133]) : FR AD f u IPM := by
  obtain ⟨ps, pl, to, hm⟩ := hMc
  refine FR_mk hA h (fun y hy => ?_) (fun i hi9 => ?_)
  · simp only [List.mem_cons, List.not_mem_nil, or_false] at hy
    rcases hy with z | z
    · exact ⟨125, by unfold IPM; omega, z⟩
    · exact ⟨133, by unfold IPM; omega, z⟩
  · rcases hi9 with z | z <;> subst z
    · exact nsc_r hm (by decide)
    · exact nsc_a hq
set_option maxRecDepth 100000 in
theorem kR_play {l : Launch} (hfl : l.stackTraces = false) {D : va_G} {cy : Nat → ClassId} {f : Hf} {sz : Nat} {AD : Nat → Nat} {q q2 : Nat → Option Nat} {k : Nat} {r : Int32} (hk : k ≤ 511) (h : MIDPL AD cy q q2 k r f) : hMet l yX9_play cX9_play 5 (some .int) { frames := 6, cells := 0, slots := 0, locals := 158 } D (hTy cy) f sz [.ref (AD 125)] (hQi (fun b u => ∃ o, WJ AD cy q q2 (k + 1) r o u ∧ (r = 0 → o 0 = b.toInt64)) D f sz) hNo := by
  obtain ⟨hA, xa, xr, xk, hi, th, tl, w, nS, nC, cm, cs, lo, le, lfi, ge, SS, g, gp, gd, o, N, gb, gx, hMc, hRm, ⟨s1, s3, ⟨⟨cm9, cs9, s6⟩, ⟨gk, s7⟩, gq, s8⟩, od, s5⟩, hT, hx, hch, hnar, hp, hJ, hb, hc⟩ := h
  obtain ⟨ps, pl, to, hm⟩ := id hMc
  have ht := hch.1
  have hN := hp.1
  have hNt := par_n hp
  have hw := JM_w hJ
  rcases hc with ⟨rfl, hbad, c3, c4, c5⟩ | ⟨rfl, ht1, hpe, K, cm2, cs2, hK, hbefore, hR, c3, c4, c6, c5⟩ | ⟨rfl, ht1, hpe, hall, c3, c4, c5, c6⟩
  · have hz : ∃ n, n ≤ 60 ∧ (∀ j, j < n → ¬ pzF gx tl j = 0 ∧ pzP gx tl j < tl) ∧ pzP gx tl n ≤ 62 ∧ pzF gx tl n = 0 ∧ pzP gx tl n = FLT tl gb N := by
      rcases hbad with z | ⟨z1, z2, z3⟩
      · subst z
        exact ⟨0, by omega, fun j hj => absurd hj (by omega), Nat.zero_le _, rfl, rfl⟩
      · have h9 := psP_ge (tl := tl) (gb := gb) N
        obtain ⟨a1, a2, a3⟩ := loc_no hch z2 z3
        have e1 : pzP gx tl (N + 1) = FLT tl gb N := by
          show (X9_isElement_x12 gx tl (pzP gx tl N)).toNatClampNeg = _
          rw [par_eq hch hp N (Nat.le_refl _), a2]
          exact (if_neg (by omega)).symm
        refine ⟨N + 1, by omega, fun j hj => ?_, ?_, ?_, e1⟩
        · rcases Nat.lt_or_ge j N with w9 | w9
          · exact par_z hch hp z1 j w9
          · have ej : j = N := by omega
            subst ej
            exact ⟨par_F hch hp z1 j (Nat.le_refl _), by rw [par_eq hch hp j (Nat.le_refl _)]; exact z2⟩
        · rw [e1]
          unfold FLT
          rw [if_neg (by omega)]
          split <;> omega
        · show X9_isElement_r11 gx tl (pzP gx tl N) = 0
          rw [par_eq hch hp N (Nat.le_refl _)]; exact a1
    obtain ⟨n, n1, n2, n3, n4, n5⟩ := hz
    refine h_conI (h_mono (k_X9_playM hfl hm hx s8 ht n1 n2 n3 n4) (Nat.le_of_ble_eq_true rfl) (Nat.le_of_ble_eq_true rfl) (Nat.le_of_ble_eq_true rfl) (Nat.le_of_ble_eq_true rfl)) ?_ (fun _ _ h => h)
    intro b u hp9
    obtain ⟨er, em, ept, ef⟩ := hp9
    rw [n5] at em
    have F := fr_pm hA hMc s8 ef
    exact ⟨o, ⟨hA, _, xr, xk, hi, 0, w, nS, nC, cm, cs, lo, le, lfi, ge, SS, g, gp, gd, XC_fr F (by unfold IPM; omega) c3, ⟨_, _, _, em⟩, CMN_fr F (fun i h1 h2 => by unfold IPM; omega) (by unfold IPM; omega) (by unfold IPM; omega) (by unfold IPM; omega) c4, RMN_fr F (by unfold IPM; omega) (by unfold IPM; omega) (by unfold IPM; omega) hRm, ⟨SVG_fr F (by unfold IPM; omega) (by unfold IPM; omega) (by unfold IPM; omega) (by unfold IPM; omega) (by unfold IPM; omega) (Nat.le_refl _) (SVG_0 s1), ⟨gb, gx, TXC_fr F (by unfold IPM; omega) (by unfold IPM; omega) (by unfold IPM; omega) hT, IA_fr F (by unfold IPM; omega) hx, CHR0, hnar⟩, ROG_fr F (fun i h1 h2 => by unfold IPM; omega) (fun i h1 h2 => by unfold IPM; omega) s3, ⟨⟨cm9, cs9, MW_FR F (fun i h1 h2 => by unfold IPM; omega) s6⟩, ⟨gk, IA_fr F (by unfold IPM; omega) s7⟩, ⟨_, ept⟩⟩, od, OUD_fr F (by unfold IPM; omega) s5⟩, OUT_fr F (by unfold IPM; omega) c5, hJ, by omega⟩, fun z => absurd z (by decide)⟩
  · have hRF : refusesR ((pzQ gx tl gq N) (4 * K)) ((pzQ gx tl gq N) (4 * K + 1)) ((pzQ gx tl gq N) (4 * K + 2)) ((pzQ gx tl gq N) (4 * K + 3)) 0 0 (plG (pzQ gx tl gq N) g K) = rfR (fl (psS tl gb) cm cs K).1 (fl (psS tl gb) cm cs K).2 (psS tl gb K) ∧ dN ((plG (pzQ gx tl gq N) g K) 4) 4 ∧ (∀ j, j < K → refusesR ((pzQ gx tl gq N) (4 * j)) ((pzQ gx tl gq N) (4 * j + 1)) ((pzQ gx tl gq N) (4 * j + 2)) ((pzQ gx tl gq N) (4 * j + 3)) 0 0 (plG (pzQ gx tl gq N) g j) ≤ 0 ∧ dN ((plG (pzQ gx tl gq N) g j) 4) 4 ∧ PAR ((pzQ gx tl gq N) (4 * j)) ((pzQ gx tl gq N) (4 * j + 1)) ((pzQ gx tl gq N) (4 * j + 2)) ∧ DOK (plG (pzQ gx tl gq N) g j) ((pzQ gx tl gq N) (4 * j)) ((pzQ gx tl gq N) (4 * j + 1)) ((pzQ gx tl gq N) (4 * j + 2))) ∧ ∀ p, p < 6 * nS → plD (pzQ gx tl gq N) g gd K p = gd p := by
      rcases id hJ with ⟨-, z0, zg, -⟩ | hL
      · have hK0 : K = 0 := by
          rcases Nat.eq_zero_or_pos K with z | z
          · exact z
          · have h9 := hbefore 0 z
            rw [rfR_none (show (fl (psS tl gb) cm cs 0).1 0 = 0 from z0)] at h9
            exact absurd h9 (by decide)
        subst hK0
        refine ⟨?_, JM_4 hJ, fun j hj => absurd hj (by omega), fun _ _ => rfl⟩
        rw [(pl_rf hch hp hK).1, RFG_none (par_OKS hch hp 0 hK) (show flG (psS tl gb) g 0 0 = 0 from zg 0 (by omega)), rfR_none (show (fl (psS tl gb) cm cs 0).1 0 = 0 from z0)]
      · have hup := upto (K := K) (JL_RR hL) (by omega) (fun j hj => par_OKS hch hp j (by omega)) hbefore K (Nat.le_refl _)
        refine ⟨?_, ?_, pl_ac hch hp (by omega) (JL_RR hL) (by omega) hbefore, (plD_at hch hp (by omega) (JL_RR hL) (by omega) hbefore K (Nat.le_refl _)).1⟩
        · rw [(pl_rf hch hp hK).1]; exact (ref_eq hup (par_OKS hch hp K hK)).symm
        · rw [plG_fl hch hp K (by omega)]; exact RR_4 hup
    obtain ⟨f1, f2, f3, f4⟩ := hRF
    have hno : ¬ refusesR ((pzQ gx tl gq N) (4 * K)) ((pzQ gx tl gq N) (4 * K + 1)) ((pzQ gx tl gq N) (4 * K + 2)) ((pzQ gx tl gq N) (4 * K + 3)) 0 0 (plG (pzQ gx tl gq N) g K) ≤ 0 := fun z => by
      rw [(pl_rf hch hp hK).1] at z f1
      exact hR (f1.symm.trans ((RFG_le (par_OKS hch hp K hK)).mp z))
    refine h_conI (h_mono (k_X9_playR hfl hm hx s8 hRm.1 s7 hRm.2.2 ht hN (par_z hch hp ht1) (by rw [par_eq hch hp N (Nat.le_refl _)]; have := par_le ht hp N (Nat.le_refl _); omega) ⟨par_F hch hp ht1 N (Nat.le_refl _), by rw [par_eq hch hp N (Nat.le_refl _)]; exact hpe⟩ (AD_ne hA (by omega)) hK f3 ⟨hno, f2, (pl_rf (g := g) hch hp hK).2⟩) (Nat.le_of_ble_eq_true rfl) (Nat.le_of_ble_eq_true rfl) (Nat.le_of_ble_eq_true rfl) (Nat.le_of_ble_eq_true rfl)) ?_ (fun _ _ h => h)
    intro b u hp9
    obtain ⟨er, em, ept, ekp, ev, ed, ef⟩ := hp9
    rw [f1] at em
    have F : FR AD f u IPR := fr_pr hA hMc hRm s7 s8 (hFrL_mono ef (fun y hy => by
      simp only [List.mem_cons, List.not_mem_nil, or_false] at hy ⊢
      rcases hy with z | z | z | z | z <;> simp [z]))
    have eP : IA AD cy u 129 51528 gp := ef _ _ (fun hm9 => by
      simp only [List.mem_cons, List.not_mem_nil, or_false] at hm9
      rcases hm9 with z | z | z | z | z <;> exact absurd z (AD_ne hA (by omega))) hRm.2.1
    exact ⟨o, ⟨hA, xa, nI K, _, hi, 0, w, nS, nC, cm2, cs2, lo, le, lfi, ge, SS, _, gp, _, XC_fr F (by unfold IPR; omega) c3, ⟨_, _, _, em⟩, CMN_fr F (fun i h1 h2 => by unfold IPR; omega) (by unfold IPR; omega) (by unfold IPR; omega) (by unfold IPR; omega) c4, ⟨ev, eP, ed⟩, ⟨SVG_fr F (by unfold IPR; omega) (by unfold IPR; omega) (by unfold IPR; omega) (by unfold IPR; omega) (by unfold IPR; omega) (Nat.le_refl _) (SVG_0 s1), ⟨gb, gx, TXC_fr F (by unfold IPR; omega) (by unfold IPR; omega) (by unfold IPR; omega) hT, IA_fr F (by unfold IPR; omega) hx, CHR0, hnar⟩, ROG_fr F (fun i h1 h2 => by unfold IPR; omega) (fun i h1 h2 => by unfold IPR; omega) s3, ⟨⟨cm9, cs9, MW_FR F (fun i h1 h2 => by unfold IPR; omega) s6⟩, ⟨_, ekp⟩, ⟨_, ept⟩⟩, od, OUD_fr F (by unfold IPR; omega) s5⟩, OUT_fr F (by unfold IPR; omega) c5, JM_cp c6 (fun p hp => (cps_at hp).trans (cps_at hp)) f4, by omega⟩, fun z => absurd z (by decide)⟩
  · have hN1 : 1 ≤ N := by
      rcases Nat.eq_zero_or_pos N with z | z
      · subst z
        have e0 : psP tl gb 0 = 0 := rfl
        omega
      · exact z
    have hL : JL cm cs lo le lfi w nS nC ge SS g gp gd := JM_live (S := psS tl gb 0) hJ (hall 0 (by omega))
    have hRR := JL_RR hL
    have hOK : ∀ j, j < N → OKS (psS tl gb j) := fun j hj => par_OKS hch hp j hj
    have hup := upto (K := N) hRR (by omega) hOK hall
    have h24 : g 24 = nI nC := by
      obtain ⟨⟨E, h9, -⟩, -⟩ := hL
      exact h9.2.2.2.1
    refine h_conI (h_mono (k_X9_playA hfl hm hx s8 hRm.1 s7 hRm.2.2 hRm.2.1 ht hN (par_z hch hp ht1) (by rw [par_eq hch hp N (Nat.le_refl _)]; have := par_le ht hp N (Nat.le_refl _); omega) ⟨par_F hch hp ht1 N (Nat.le_refl _), by rw [par_eq hch hp N (Nat.le_refl _)]; exact hpe⟩ (by omega) (AD_ne hA (by omega)) (pl_ac hch hp (Nat.le_refl _) hRR (by omega) hall)) (Nat.le_of_ble_eq_true rfl) (Nat.le_of_ble_eq_true rfl) (Nat.le_of_ble_eq_true rfl) (Nat.le_of_ble_eq_true rfl)) ?_ (fun _ _ h => h)
    intro b u hp9
    obtain ⟨er, em, ept, ekp, ev, ed, epa, ef⟩ := hp9
    have F : FR AD f u IPR := fr_pr hA hMc hRm s7 s8 ef
    obtain ⟨d1, d2⟩ := plD_at (gq := gq) (gd := gd) hch hp (Nat.le_refl _) hRR (by omega) hall N (Nat.le_refl _)
    have hJ2 := JL_app (P := psS tl gb) (N := N) (q := X9_playA_g1 gx gq g N tl) (gr := X9_copies_g0 6441 g gk) (gt := X9_playA_g5 gx gq g gd N tl) hL hN1 (by omega) hOK (fun j hj => (ref_eq (hup j (by omega)) (hOK j hj)).symm.trans (hall j hj)) (fun p hp9 hp2 => ?_) ?_ (fun p hp9 => cps_at hp9) d1 d2
    · exact ⟨o, ⟨hA, xa, xr, xk, hi, 0, kpN w, nS + N, nC + 1, _, _, lo, le, lfi, _, _, _, _, _, XC_fr F (by unfold IPR; omega) c3, ⟨_, _, _, em⟩, CMN_fr F (fun i h1 h2 => by unfold IPR; omega) (by unfold IPR; omega) (by unfold IPR; omega) (by unfold IPR; omega) c4, ⟨ev, epa, ed⟩, ⟨SVG_fr F (by unfold IPR; omega) (by unfold IPR; omega) (by unfold IPR; omega) (by unfold IPR; omega) (by unfold IPR; omega) (Nat.le_refl _) (SVG_0 s1), ⟨gb, gx, TXC_fr F (by unfold IPR; omega) (by unfold IPR; omega) (by unfold IPR; omega) hT, IA_fr F (by unfold IPR; omega) hx, CHR0, hnar⟩, ROG_fr F (fun i h1 h2 => by unfold IPR; omega) (fun i h1 h2 => by unfold IPR; omega) s3, ⟨⟨cm9, cs9, MW_FR F (fun i h1 h2 => by unfold IPR; omega) s6⟩, ⟨_, ekp⟩, ⟨_, ept⟩⟩, od, OUD_fr F (by unfold IPR; omega) s5⟩, OUT_fr F (by unfold IPR; omega) c5, Or.inr hJ2, by omega⟩, fun _ => c6.trans (congrArg Int32.toInt64 er.symm)⟩
    · unfold X9_playA_g1
      rw [upd_off hp2, plG_fl hch hp N (Nat.le_refl _)]
    · unfold X9_playA_g1
      rw [upd_at, plG_fl hch hp N (Nat.le_refl _), fl24 hRR (by omega) hOK hall N (Nat.le_refl _), h24]
      exact nI_add _ 1
