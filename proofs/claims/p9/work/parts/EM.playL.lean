set_option maxRecDepth 100000 in
theorem kL_play {l : Launch} (hfl : l.stackTraces = false) {D : va_G} {cy : Nat → ClassId} {f : Hf} {sz : Nat} {AD : Nat → Nat} {q q2 : Nat → Option Nat} {k : Nat} {th : Int32} {o : Nat → Int64} (hk : k ≤ 511) (h : WJ AD cy q q2 k th o f) : hMetH l yL_play cL_play 3 (some .int) [((0 : Nat), (8 : Nat), (11 : Nat), (13 : Nat)), ((0 : Nat), (8 : Nat), (14 : Nat), (49 : Nat))] { frames := 9, cells := 64, slots := 600, locals := 170 } D (hTy cy) f sz [.ref (AD 0), .ref (AD 138)] (hQi (fun r u => MIDPL AD cy q q2 k r u) D f sz) hNo := by
  obtain ⟨hA, xa, xr, xk, hi, tl, w, nS, nC, cm, cs, lo, le, lfi, ge, SS, g, gp, gd, hX, hMc, hC, hRm, hRs, hO, hJ, hb⟩ := h
  obtain ⟨hM, h1, h2, qs, sq, h3, h4⟩ := id hC
  obtain ⟨s1, ⟨gb, gx, hT, hx, hch, hnar⟩, s3, s4, od, s5⟩ := id hRs
  obtain ⟨⟨tc, t1⟩, t2, qp, t3⟩ := id hT
  have ht := hch.1
  obtain ⟨N, hp⟩ := par_ex tl gb ht
  have hNt := par_n hp
  have hN := hp.1
  have hw := JM_w hJ
  have hnC := JM_nC hJ
  by_cases ht0 : tl = 0
  · have hpe : tl ≤ psP tl gb N := by omega
    refine h_conH (w_play hfl (gl := o) (P := fun _ _ => False) hX (fun sz => h_mono (c_X8_playM0 hfl (x := AD 0) (A := AM AD) (b := 0) (b2 := 54) hX t1 t2 t3 ht hN hnar (par_le ht hp) (par_use hp) hpe (by rw [ht0]; rfl)) (Nat.le_of_ble_eq_true rfl) (Nat.le_of_ble_eq_true rfl) (Nat.le_of_ble_eq_true rfl) (Nat.le_of_ble_eq_true rfl)) (fun E u hx => Or.inl hx.1) (fun v w h => h.elim)) ?_
    intro r u hp9
    rcases hp9 with ⟨rfl, v9, w9, hf, -⟩ | ⟨rfl, -, y1, y2, ⟨Q9, y3⟩, y4⟩ | ⟨rfl, hx9, -⟩
    · exact hf.elim
    · have F := fr_p1 hA hX hT y4
      exact ⟨hA, xa, xr, xk, hi, th, tl, w, nS, nC, cm, cs, lo, le, lfi, ge, SS, g, gp, gd, o, N, gb, gx, MC_fr F (by unfold IP1; omega) hMc, RMN_fr F (by unfold IP1; omega) (by unfold IP1; omega) (by unfold IP1; omega) hRm, ⟨SVG_fr F (by unfold IP1; omega) (by unfold IP1; omega) (by unfold IP1; omega) (by unfold IP1; omega) (by unfold IP1; omega) (Nat.le_refl _) s1, ROG_fr F (fun i h1 h2 => by unfold IP1; omega) (fun i h1 h2 => by unfold IP1; omega) s3, JNK_fr F (fun i h1 h2 => by unfold IP1; omega) (by unfold IP1; omega) (by unfold IP1; omega) s4, od, OUD_fr F (by unfold IP1; omega) s5⟩, ⟨⟨_, y2⟩, F.1 _ _ (by unfold IP1; omega) t2, Q9, y3⟩, IA_fr F (by unfold IP1; omega) hx, hch, hnar, hp, hJ, hb, Or.inl ⟨rfl, Or.inl ht0, by rw [show FLT tl gb N = _ from if_pos ht0]; exact y1, CMN_fr F (fun i h1 h2 => by unfold IP1; omega) (by unfold IP1; omega) (by unfold IP1; omega) (by unfold IP1; omega) hC, OUT_fr F (by unfold IP1; omega) hO⟩⟩
    · exact absurd hx9 (by decide)
  have ht1 : 1 ≤ tl := by omega
  rcases hp.2.2.symm with ⟨hpe, hno⟩ | hpe
  · rcases (loc_no hch hpe hno).2.2 with z | ⟨z1, z2, z3⟩
    · refine h_conH (w_play hfl (gl := o) (P := fun _ _ => False) hX (fun sz => h_mono (c_X8_playM1 hfl (x := AD 0) (A := AM AD) (b := 0) (b2 := 54) hX t1 t2 t3 ht hN hnar (par_le ht hp) (par_use hp) ⟨hpe, z⟩) (Nat.le_of_ble_eq_true rfl) (Nat.le_of_ble_eq_true rfl) (Nat.le_of_ble_eq_true rfl) (Nat.le_of_ble_eq_true rfl)) (fun E u hx => Or.inl hx.1) (fun v w h => h.elim)) ?_
      intro r u hp9
      rcases hp9 with ⟨rfl, v9, w9, hf, -⟩ | ⟨rfl, -, y1, y2, ⟨Q9, y3⟩, y4⟩ | ⟨rfl, hx9, -⟩
      · exact hf.elim
      · have F := fr_p1 hA hX hT y4
        exact ⟨hA, xa, xr, xk, hi, th, tl, w, nS, nC, cm, cs, lo, le, lfi, ge, SS, g, gp, gd, o, N, gb, gx, MC_fr F (by unfold IP1; omega) hMc, RMN_fr F (by unfold IP1; omega) (by unfold IP1; omega) (by unfold IP1; omega) hRm, ⟨SVG_fr F (by unfold IP1; omega) (by unfold IP1; omega) (by unfold IP1; omega) (by unfold IP1; omega) (by unfold IP1; omega) (Nat.le_refl _) s1, ROG_fr F (fun i h1 h2 => by unfold IP1; omega) (fun i h1 h2 => by unfold IP1; omega) s3, JNK_fr F (fun i h1 h2 => by unfold IP1; omega) (by unfold IP1; omega) (by unfold IP1; omega) s4, od, OUD_fr F (by unfold IP1; omega) s5⟩, ⟨⟨_, y2⟩, F.1 _ _ (by unfold IP1; omega) t2, Q9, y3⟩, IA_fr F (by unfold IP1; omega) hx, hch, hnar, hp, hJ, hb, Or.inl ⟨rfl, Or.inr ⟨ht1, hpe, hno⟩, by rw [show FLT tl gb N = _ from (if_neg ht0).trans (by rw [if_pos z])]; exact y1, CMN_fr F (fun i h1 h2 => by unfold IP1; omega) (by unfold IP1; omega) (by unfold IP1; omega) (by unfold IP1; omega) hC, OUT_fr F (by unfold IP1; omega) hO⟩⟩
      · exact absurd hx9 (by decide)
    · refine h_conH (w_play hfl (gl := o) (P := fun _ _ => False) hX (fun sz => h_mono (c_X8_playM2 hfl (x := AD 0) (A := AM AD) (b := 0) (b2 := 54) hX t1 t2 t3 ht hN hnar (par_le ht hp) (par_use hp) ⟨hpe, z1, z2, z3⟩) (Nat.le_of_ble_eq_true rfl) (Nat.le_of_ble_eq_true rfl) (Nat.le_of_ble_eq_true rfl) (Nat.le_of_ble_eq_true rfl)) (fun E u hx => Or.inl hx.1) (fun v w h => h.elim)) ?_
      intro r u hp9
      rcases hp9 with ⟨rfl, v9, w9, hf, -⟩ | ⟨rfl, -, y1, y2, ⟨Q9, y3⟩, y4⟩ | ⟨rfl, hx9, -⟩
      · exact hf.elim
      · have F := fr_p1 hA hX hT y4
        exact ⟨hA, xa, xr, xk, hi, th, tl, w, nS, nC, cm, cs, lo, le, lfi, ge, SS, g, gp, gd, o, N, gb, gx, MC_fr F (by unfold IP1; omega) hMc, RMN_fr F (by unfold IP1; omega) (by unfold IP1; omega) (by unfold IP1; omega) hRm, ⟨SVG_fr F (by unfold IP1; omega) (by unfold IP1; omega) (by unfold IP1; omega) (by unfold IP1; omega) (by unfold IP1; omega) (Nat.le_refl _) s1, ROG_fr F (fun i h1 h2 => by unfold IP1; omega) (fun i h1 h2 => by unfold IP1; omega) s3, JNK_fr F (fun i h1 h2 => by unfold IP1; omega) (by unfold IP1; omega) (by unfold IP1; omega) s4, od, OUD_fr F (by unfold IP1; omega) s5⟩, ⟨⟨_, y2⟩, F.1 _ _ (by unfold IP1; omega) t2, Q9, y3⟩, IA_fr F (by unfold IP1; omega) hx, hch, hnar, hp, hJ, hb, Or.inl ⟨rfl, Or.inr ⟨ht1, hpe, hno⟩, by rw [show FLT tl gb N = _ from (if_neg ht0).trans (by rw [if_neg z1])]; exact y1, CMN_fr F (fun i h1 h2 => by unfold IP1; omega) (by unfold IP1; omega) (by unfold IP1; omega) (by unfold IP1; omega) hC, OUT_fr F (by unfold IP1; omega) hO⟩⟩
      · exact absurd hx9 (by decide)
  have hN1 : 1 ≤ N := by
    rcases Nat.eq_zero_or_pos N with z | z
    · subst z
      have e0 : psP tl gb 0 = 0 := rfl
      omega
    · exact z
  have htl0 : ¬ nI tl = 0 := fun z => ht0 ((nI_eq (a := tl) (b := 0) (by omega) (by omega)).mp z)
  have hroom : X1_hasRoom_x1 nS nC N = 1 := room_N (by omega) (by omega)
  have hsteps : (∀ j, j < N → rfR (fl (psS tl gb) cm cs j).1 (fl (psS tl gb) cm cs j).2 (psS tl gb j) = 0) ∨ ∃ K, K < N ∧ (∀ j, j < K → rfR (fl (psS tl gb) cm cs j).1 (fl (psS tl gb) cm cs j).2 (psS tl gb j) = 0) ∧ ¬ rfR (fl (psS tl gb) cm cs K).1 (fl (psS tl gb) cm cs K).2 (psS tl gb K) = 0 := by
    rcases hJ with ⟨-, z0, -⟩ | hL
    · refine Or.inr ⟨0, by omega, fun j hj => absurd hj (by omega), ?_⟩
      rw [rfR_none (show (fl (psS tl gb) cm cs 0).1 0 = 0 from z0)]; decide
    · rcases many (N := N) (SS := psS tl gb) (JL_RR hL) (by omega) (fun j hj => par_OKS hch hp j hj) with ⟨m1, -⟩ | ⟨K, m1, m2, -, m3⟩
      · exact Or.inl m1
      · exact Or.inr ⟨K, m1, m2, m3⟩
  rcases hsteps with hall | ⟨K, hK, hbefore, hR⟩
  · have hL : JL cm cs lo le lfi w nS nC ge SS g gp gd := JM_live (S := psS tl gb 0) hJ (hall 0 (by omega))
    have hup := upto (K := N) (JL_RR hL) (by omega) (fun j hj => par_OKS hch hp j hj) hall
    have hsub : ∀ {v : Hf}, hFrL f v (MA (AM AD) 0 ++ [AD 109, AD (109 + 2), AD (109 + 3), AD 117, AD 120]) → FR AD f v IPL := fun {v} hf => fr_pl hA hX hC hT (hFrL_mono hf (fun y hy => by
      rcases List.mem_append.mp hy with z | z
      · exact List.mem_append.mpr (Or.inl z)
      · exact List.mem_append.mpr (Or.inr (List.mem_cons_of_mem _ z))))
    refine h_conH (w_play hfl (gl := o) (X := hNo) hX (fun sz => h_mono (c_X8_playA hfl (x := AD 0) (A := AM AD) (b := 0) (b2 := 54) (q := q) hX t1 t2 t3 h1 h3 h2 (AM_ne hA) hM hA.2.1 (nMA hA (by omega)) (nMA hA (by omega)) (nMA hA (by omega)) (nMA hA (by omega)) ht hN hnar (par_le ht hp) (par_use hp) htl0 hpe (fun j hj => RR_PP (by omega) (hup j (by omega))) hall (by omega) (by omega) hroom) (Nat.le_of_ble_eq_true rfl) (Nat.le_of_ble_eq_true rfl) (Nat.le_of_ble_eq_true rfl) (Nat.le_of_ble_eq_true rfl)) (fun _ _ h => False.elim h) (fun v9 u9 hp9 => OUT_fr (hsub hp9.2.2.2.2.2.2) (by unfold IPL; omega) hO)) ?_
    intro r u hp9
    rcases hp9 with ⟨rfl, v9, u9, ⟨e9, y1, y2, y3, y4, ⟨Q9, sq9, y5, y6, y7⟩, y8⟩, hu⟩ | ⟨rfl, hx9⟩ | ⟨rfl, hx9⟩
    · have F1 := hsub y8
      have O1 : OUT AD cy u9 o := OUT_fr F1 (by unfold IPL; omega) hO
      obtain ⟨F2, O2⟩ := FR_up hA (nsc_a O1) hu
      have F : FR AD f u (fun i => IPL i ∨ i = 138) := FR_trans F1 F2
      have X1 : XC AD u9 xa xr xk := y8 _ _ (fun hm9 => by
        rcases List.mem_append.mp hm9 with z | z
        · exact nMA hA (show 0 < 0 + 1 ∨ 0 + 55 ≤ 0 by omega) z
        · simp only [List.mem_cons, List.not_mem_nil, or_false] at z
          rcases z with z | z | z | z | z <;> exact absurd z (AD_ne hA (by omega))) hX
      rw [kp_i w (by omega)] at y2
      have C1 : CMN AD cy q u9 (fl (psS tl gb) cm cs N).1 (fl (psS tl gb) cm cs N).2 lo le lfi (kpN w) (nS + N) (nC + 1) (upd ge nC (nI (nS + N))) (jn SS (psS tl gb) nS) := by
        refine ⟨y1, y2, y3, lgQ qs sq9 nS N, fun j => if j < nS then sq j else sq9 (j - nS), y6, fun j hj => ?_⟩
        show lgQ qs sq9 nS N j = some (if j < nS then sq j else sq9 (j - nS)) ∧ u9 (if j < nS then sq j else sq9 (j - nS)) = _
        unfold lgQ
        by_cases z : j < nS
        · rw [if_neg (show ¬ (nS ≤ j ∧ j < nS + N) by omega), if_pos z, jn_lo z]
          exact ⟨(h4 j z).1, F1.2 _ _ (h4 j z).2⟩
        · rw [if_pos (show nS ≤ j ∧ j < nS + N by omega), if_neg z]
          refine ⟨rfl, ?_⟩
          obtain ⟨i, rfl⟩ : ∃ i, j = nS + i := ⟨j - nS, by omega⟩
          rw [jn_hi, show nS + i - nS = i by omega]
          exact y7 i (by omega)
      refine ⟨hA, xa, xr, xk, hi, th, tl, w, nS, nC, cm, cs, lo, le, lfi, ge, SS, g, gp, gd, _, N, gb, gx, MC_fr F (by unfold IPL; omega) hMc, RMN_fr F (by unfold IPL; omega) (by unfold IPL; omega) (by unfold IPL; omega) hRm, ⟨SVG_fr F (by unfold IPL; omega) (by unfold IPL; omega) (by unfold IPL; omega) (by unfold IPL; omega) (by unfold IPL; omega) (Nat.le_refl _) s1, ROG_fr F (fun i h1 h2 => by unfold IPL; omega) (fun i h1 h2 => by unfold IPL; omega) s3, JNK_fr F (fun i h1 h2 => by unfold IPL; omega) (by unfold IPL; omega) (by unfold IPL; omega) s4, od, OUD_fr F (by unfold IPL; omega) s5⟩, ⟨⟨_, F2.1 _ _ (by omega) y4⟩, F.1 _ _ (by unfold IPL; omega) t2, Q9, F2.1 _ _ (by omega) y5⟩, IA_fr F (by unfold IPL; omega) hx, hch, hnar, hp, hJ, hb, Or.inr (Or.inr ⟨rfl, ht1, hpe, hall, XC_fr F2 (by omega) X1, CMN_fr F2 (fun i h1 h2 => by omega) (by omega) (by omega) (by omega) C1, O2, ?_⟩)⟩
      rw [← e9]; exact if_pos rfl
    · exact hx9.elim
    · exact hx9.elim
  · have hsub : ∀ {v : Hf}, hFrL f v (MA (AM AD) 0 ++ [AD 0, AD 117, AD 120]) → FR AD f v IPL := fun {v} hf => fr_pl hA hX hC hT (hFrL_mono hf (fun y hy => by
      rcases List.mem_append.mp hy with z | z
      · exact List.mem_append.mpr (Or.inl z)
      · refine List.mem_append.mpr (Or.inr ?_)
        simp only [List.mem_cons, List.not_mem_nil, or_false] at z ⊢
        rcases z with z | z | z <;> simp [z]))
    rcases JM_le hJ with ⟨v1, hle, -, hc0⟩ | ⟨v1, hle, -, hL⟩
    · have hK0 : K = 0 := by
        rcases Nat.eq_zero_or_pos K with z | z
        · exact z
        · have h9 := hbefore 0 z
          rw [rfR_none (show (fl (psS tl gb) cm cs 0).1 0 = 0 from hc0)] at h9
          exact absurd h9 (by decide)
      subst hK0
      refine h_conH (w_play hfl (gl := o) (P := fun _ _ => False) hX (fun sz => h_mono (c_X8_playRN hfl (x := AD 0) (A := AM AD) (b := 0) (b2 := 54) (q := q) hX t1 t2 t3 h1 h3 h2 (AM_ne hA) hM hA.2.1 (nMA hA (by omega)) (nMA hA (by omega)) (nMA hA (by omega)) (nMA hA (by omega)) ht hN hnar (par_le ht hp) (par_use hp) htl0 hpe hK (fun j hj => absurd hj (by omega)) hbefore (Or.inl hc0) hR (by omega) (by omega) hroom v1 hc0) (Nat.le_of_ble_eq_true rfl) (Nat.le_of_ble_eq_true rfl) (Nat.le_of_ble_eq_true rfl) (Nat.le_of_ble_eq_true rfl)) (fun E u hx => Or.inr hx.1) (fun v w h => h.elim)) ?_
      intro r u hp9
      rcases hp9 with ⟨rfl, v9, w9, hf, -⟩ | ⟨rfl, hx9, -⟩ | ⟨rfl, -, y1, y2, y3, ⟨Q9, y4⟩, y5⟩
      · exact hf.elim
      · exact absurd hx9 (by decide)
      · have F := hsub y5
        have keep : ∀ i, i ≠ 0 → i ≠ 117 → i ≠ 120 → 55 ≤ i → ∀ c, f (AD i) = some c → u (AD i) = some c := fun i i0 i1 i2 i3 c hc => y5 _ _ (fun hm9 => by
          rcases List.mem_append.mp hm9 with z | z
          · exact nMA hA (show i < 0 + 1 ∨ 0 + 55 ≤ i by omega) z
          · simp only [List.mem_cons, List.not_mem_nil, or_false] at z
            rcases z with z | z | z <;> exact absurd z (AD_ne hA (by omega))) hc
        exact ⟨hA, xa, xr, xk, hi, th, tl, w, nS, nC, cm, cs, lo, le, lfi, ge, SS, g, gp, gd, o, N, gb, gx, MC_fr F (by unfold IPL; omega) hMc, RMN_fr F (by unfold IPL; omega) (by unfold IPL; omega) (by unfold IPL; omega) hRm, ⟨SVG_fr F (by unfold IPL; omega) (by unfold IPL; omega) (by unfold IPL; omega) (by unfold IPL; omega) (by unfold IPL; omega) (Nat.le_refl _) s1, ROG_fr F (fun i h1 h2 => by unfold IPL; omega) (fun i h1 h2 => by unfold IPL; omega) s3, JNK_fr F (fun i h1 h2 => by unfold IPL; omega) (by unfold IPL; omega) (by unfold IPL; omega) s4, od, OUD_fr F (by unfold IPL; omega) s5⟩, ⟨⟨_, y3⟩, F.1 _ _ (by unfold IPL; omega) t2, Q9, y4⟩, IA_fr F (by unfold IPL; omega) hx, hch, hnar, hp, hJ, hb, Or.inr (Or.inl ⟨rfl, ht1, hpe, 0, _, _, hK, hbefore, hR, y2, ⟨y1, keep 109 (by omega) (by omega) (by omega) (by omega) _ h1, keep 112 (by omega) (by omega) (by omega) (by omega) _ h2, qs, sq, keep 111 (by omega) (by omega) (by omega) (by omega) _ h3, fun j hj => ⟨(h4 j hj).1, F.2 _ _ (h4 j hj).2⟩⟩, hJ, OUT_fr F (by unfold IPL; omega) hO⟩)⟩
    · have hup := upto (K := K) (JL_RR hL) (by omega) (fun j hj => par_OKS hch hp j (by omega)) hbefore
      have hE := hL
      obtain ⟨⟨E, hE1, -⟩, -⟩ := hE
      refine h_conH (w_play hfl (gl := o) (P := fun _ _ => False) hX (fun sz => h_mono (c_X8_playR hfl (x := AD 0) (A := AM AD) (b := 0) (b2 := 54) (q := q) hX t1 t2 t3 h1 h3 h2 (AM_ne hA) hM hA.2.1 (nMA hA (by omega)) (nMA hA (by omega)) (nMA hA (by omega)) (nMA hA (by omega)) ht hN hnar (par_le ht hp) (par_use hp) htl0 hpe hK (fun j hj => RR_PP (by omega) (hup j (by omega))) hbefore (Or.inr (RR_PP (by omega) (hup K (Nat.le_refl _)))) hR (by omega) (by omega) hroom v1 h4 (JL_pp hE1.1 (by omega) hE1.2.2.1 _ _)) (Nat.le_of_ble_eq_true rfl) (Nat.le_of_ble_eq_true rfl) (Nat.le_of_ble_eq_true rfl) (Nat.le_of_ble_eq_true rfl)) (fun E u hx => Or.inr hx.1) (fun v w h => h.elim)) ?_
      intro r u hp9
      rcases hp9 with ⟨rfl, v9, w9, hf, -⟩ | ⟨rfl, hx9, -⟩ | ⟨rfl, -, y1, y2, y3, ⟨Q9, y4⟩, y5⟩
      · exact hf.elim
      · exact absurd hx9 (by decide)
      · have F := hsub y5
        have keep : ∀ i, i ≠ 0 → i ≠ 117 → i ≠ 120 → 55 ≤ i → ∀ c, f (AD i) = some c → u (AD i) = some c := fun i i0 i1 i2 i3 c hc => y5 _ _ (fun hm9 => by
          rcases List.mem_append.mp hm9 with z | z
          · exact nMA hA (show i < 0 + 1 ∨ 0 + 55 ≤ i by omega) z
          · simp only [List.mem_cons, List.not_mem_nil, or_false] at z
            rcases z with z | z | z <;> exact absurd z (AD_ne hA (by omega))) hc
        exact ⟨hA, xa, xr, xk, hi, th, tl, w, nS, nC, cm, cs, lo, le, lfi, ge, SS, g, gp, gd, o, N, gb, gx, MC_fr F (by unfold IPL; omega) hMc, RMN_fr F (by unfold IPL; omega) (by unfold IPL; omega) (by unfold IPL; omega) hRm, ⟨SVG_fr F (by unfold IPL; omega) (by unfold IPL; omega) (by unfold IPL; omega) (by unfold IPL; omega) (by unfold IPL; omega) (Nat.le_refl _) s1, ROG_fr F (fun i h1 h2 => by unfold IPL; omega) (fun i h1 h2 => by unfold IPL; omega) s3, JNK_fr F (fun i h1 h2 => by unfold IPL; omega) (by unfold IPL; omega) (by unfold IPL; omega) s4, od, OUD_fr F (by unfold IPL; omega) s5⟩, ⟨⟨_, y3⟩, F.1 _ _ (by unfold IPL; omega) t2, Q9, y4⟩, IA_fr F (by unfold IPL; omega) hx, hch, hnar, hp, hJ, hb, Or.inr (Or.inl ⟨rfl, ht1, hpe, K, _, _, hK, hbefore, hR, y2, ⟨y1, keep 109 (by omega) (by omega) (by omega) (by omega) _ h1, keep 112 (by omega) (by omega) (by omega) (by omega) _ h2, qs, sq, keep 111 (by omega) (by omega) (by omega) (by omega) _ h3, fun j hj => ⟨(h4 j hj).1, F.2 _ _ (h4 j hj).2⟩⟩, Or.inr (JL_re hL _ _), OUT_fr F (by unfold IPL; omega) hO⟩)⟩
