theorem WJ_k {AD : Nat → Nat} {cy : Nat → ClassId} {q q2 : Nat → Option Nat} {k : Nat} {th : Int32} {o : Nat → Int64} {f : Hf} (h : WJ AD cy q q2 k th o f) : WJ AD cy q q2 (k + 1) th o f := by
  obtain ⟨hA, xa, xr, xk, hi, tl, w, nS, nC, cm, cs, lo, le, lfi, ge, SS, g, gp, gd, hX, hMc, hC, hRm, hRs, hO, hJ, hb⟩ := h
  exact ⟨hA, xa, xr, xk, hi, tl, w, nS, nC, cm, cs, lo, le, lfi, ge, SS, g, gp, gd, hX, hMc, hC, hRm, RST_fr (FR_rfl (I := fun _ => False)) (fun _ _ => id) (by omega) hRs, hO, hJ, by omega⟩
/-- the addresses: the scorer, the cells of its two matches, the rest -/
def wAD (x : Nat) (A : Nat → Nat) (L : List Nat) (z k : Nat) : Nat := if k = 0 then x else if k ≤ 108 then A (k - 1) else mkA L z (k - 109)
theorem wAD_A {x : Nat} {A : Nat → Nat} {L : List Nat} {z k : Nat} (h : k < 108) : AM (wAD x A L z) k = A k := by
  unfold AM wAD
  rw [if_neg (by omega), if_pos (by omega)]
  rfl
theorem wAD_L {x : Nat} {A : Nat → Nat} {L : List Nat} {z k : Nat} : wAD x A L z (109 + k) = mkA L z k := by
  unfold wAD
  rw [if_neg (by omega), if_neg (by omega)]
  exact congrArg (mkA L z) (by omega)
theorem wAD_mono {x : Nat} {A : Nat → Nat} {L : List Nat} {z : Nat} (h0 : x < A 0) (h1 : ∀ k, A k < A (k + 1)) (h2 : A 107 < L.getD 0 z) (h3 : ∀ k, mkA L z k < mkA L z (k + 1)) (k : Nat) : wAD x A L z k < wAD x A L z (k + 1) := by
  rcases Nat.eq_zero_or_pos k with e | e
  · subst e; exact h0
  · rcases Nat.lt_or_ge k 108 with h | h
    · obtain ⟨j, rfl⟩ : ∃ j, k = j + 1 := ⟨k - 1, by omega⟩
      have e1 : wAD x A L z (j + 1) = A j := wAD_A (by omega)
      have e2 : wAD x A L z (j + 1 + 1) = A (j + 1) := wAD_A (k := j + 1) (by omega)
      rw [e1, e2]; exact h1 j
    · rcases Nat.lt_or_ge k 109 with h9 | h9
      · have ek : k = 108 := by omega
        subst ek
        have e1 : wAD x A L z 108 = A 107 := wAD_A (k := 107) (by omega)
        have e2 : wAD x A L z (108 + 1) = mkA L z 0 := wAD_L (k := 0)
        rw [e1, e2]; exact h2
      · obtain ⟨j, rfl⟩ : ∃ j, k = 109 + j := ⟨k - 109, by omega⟩
        rw [wAD_L, show 109 + j + 1 = 109 + (j + 1) from rfl, wAD_L]
        exact h3 j
theorem MW_congr {A B : Nat → Nat} {b : Nat} {cy : Nat → ClassId} {q : Nat → Option Nat} {cm : Nat → Int32} {cs : Nat → Nat → Nat → Int32} {f : Hf} (h : ∀ i, i < 54 → B (b + i) = A (b + i)) (hM : MW A b cy q cm cs f) : MW B b cy q cm cs f := by
  intro k hk
  rw [h k hk, hM k hk]
  have h1 := h 1 (by omega)
  have h2 := h 2 (by omega)
  have h3 := h 3 (by omega)
  have h4 := h 4 (by omega)
  have h5 := h 5 (by omega)
  have h6 := h 6 (by omega)
  have h7 := h 7 (by omega)
  have h8 := h 8 (by omega)
  have h9 := h 9 (by omega)
  have h10 := h 10 (by omega)
  have h11 := h 11 (by omega)
  have h12 := h 12 (by omega)
  have h13 := h 13 (by omega)
  have h14 := h 14 (by omega)
  have h15 := h 15 (by omega)
  have h16 := h 16 (by omega)
  have h17 := h 17 (by omega)
  have h18 := h 18 (by omega)
  have h19 := h 19 (by omega)
  have h20 := h 20 (by omega)
  have h21 := h 21 (by omega)
  have h22 := h 22 (by omega)
  have h23 := h 23 (by omega)
  have h24 := h 24 (by omega)
  have h25 := h 25 (by omega)
  have h26 := h 26 (by omega)
  have h27 := h 27 (by omega)
  have h28 := h 28 (by omega)
  have h29 := h 29 (by omega)
  have h30 := h 30 (by omega)
  have h31 := h 31 (by omega)
  have h32 := h 32 (by omega)
  have h33 := h 33 (by omega)
  have h34 := h 34 (by omega)
  have h35 := h 35 (by omega)
  have h36 := h 36 (by omega)
  have h37 := h 37 (by omega)
  have h38 := h 38 (by omega)
  have h39 := h 39 (by omega)
  have h40 := h 40 (by omega)
  have h41 := h 41 (by omega)
  have h42 := h 42 (by omega)
  have h43 := h 43 (by omega)
  have h44 := h 44 (by omega)
  have h45 := h 45 (by omega)
  have h46 := h 46 (by omega)
  have h47 := h 47 (by omega)
  have h48 := h 48 (by omega)
  have h49 := h 49 (by omega)
  have h50 := h 50 (by omega)
  have h51 := h 51 (by omega)
  have h52 := h 52 (by omega)
  have h53 := h 53 (by omega)
  rcases c54 hk with rfl | rfl | rfl | rfl | rfl | rfl | rfl | rfl | rfl | rfl | rfl | rfl | rfl | rfl | rfl | rfl | rfl | rfl | rfl | rfl | rfl | rfl | rfl | rfl | rfl | rfl | rfl | rfl | rfl | rfl | rfl | rfl | rfl | rfl | rfl | rfl | rfl | rfl | rfl | rfl | rfl | rfl | rfl | rfl | rfl | rfl | rfl | rfl | rfl | rfl | rfl | rfl | rfl | rfl <;> simp only [mcell, h1, h2, h3, h4, h5, h6, h7, h8, h9, h10, h11, h12, h13, h14, h15, h16, h17, h18, h19, h20, h21, h22, h23, h24, h25, h26, h27, h28, h29, h30, h31, h32, h33, h34, h35, h36, h37, h38, h39, h40, h41, h42, h43, h44, h45, h46, h47, h48, h49, h50, h51, h52, h53]
theorem HQ_congr {A B : Nat → Nat} {b : Nat} {q : Nat → Option Nat} (h : ∀ i, i < 54 → B (b + i) = A (b + i)) (hQ : HQ A b q) : HQ B b q := by
  obtain ⟨a1, a2, a3, a4⟩ := hQ
  exact ⟨a1.trans (congrArg some (h 2 (by omega)).symm), a2.trans (congrArg some (h 15 (by omega)).symm), a3.trans (congrArg some (h 28 (by omega)).symm), a4.trans (congrArg some (h 41 (by omega)).symm)⟩
set_option maxRecDepth 100000 in
theorem WJ_0 {cy : Nat → ClassId} {f : Hf} {A : Nat → Nat} {q q2 : Nat → Option Nat} {sc lg ln lst len sv sn sst sen tx bf tn tp r0 r0e r1 r1e m v im kp pa de ide mtx pt so mo wh pf out outD : Nat} (h0 : sc < A 0) (h1 : ∀ k, A k < A (k + 1)) (h2 : A 107 < lg) (h3 : lg < ln ∧ ln < lst ∧ lst < len ∧ len < sv ∧ sv < sn ∧ sn < sst ∧ sst < sen ∧ sen < tx ∧ tx < bf ∧ bf < tn ∧ tn < tp ∧ tp < r0 ∧ r0 < r0e ∧ r0e < r1 ∧ r1 < r1e ∧ r1e < m ∧ m < v ∧ v < im ∧ im < kp ∧ kp < pa ∧ pa < de ∧ de < ide ∧ ide < mtx ∧ mtx < pt ∧ pt < so ∧ so < mo ∧ mo < wh ∧ wh < pf ∧ pf < out ∧ out < outD) (hM : MW A 0 cy q (fun _ => 0) iS f) (hQ : HQ A 0 q) (hM2 : MW A 54 cy q2 (fun _ => 0) iS f) (hQ2 : HQ A 54 q2) (h_sc : f sc = some (.inr (10, [.ref (A 0), .ref (A 54), .ref lg, .ref sv, .ref tx, .ref r0, .ref r1, .int (-1), .int (-1), .int 0]))) (h_lg : f lg = some (.inr (3, [.ref ln, .ref lst, .ref len, .int 0, .int 0, .int 0, .int 0, .int 0, .int 0]))) (h_lst : f lst = some (.inl (cy 4, 512, .inr (.inr (.inr (.inr (sfl ln 512))))))) (h_len : f len = some (.inl (cy 0, 512, .inl (fun _ => 0)))) (h_sv : f sv = some (.inr (3, [.ref sn, .ref sst, .ref sen, .int 0, .int 0, .int 0, .int 0, .int 0, .int 0]))) (h_sst : f sst = some (.inl (cy 4, 512, .inr (.inr (.inr (.inr (sfl sn 512))))))) (h_sen : f sen = some (.inl (cy 0, 512, .inl (fun _ => 0)))) (h_tx : f tx = some (.inr (9, [.ref bf, .ref tn, .ref tp, .int 0, .int 0]))) (h_bf : f bf = some (.inl (cy 1, 60, .inl (fun _ => 0)))) (h_tp : f tp = some (.inl (cy 4, 60, .inr (.inr (.inr (.inr (sfl tn 60))))))) (h_r0 : f r0 = some (.inr (6, [.ref r0e, .int 0, .int 0, .int 0]))) (h_r0e : f r0e = some (.inl (cy 2, 20, .inr (.inr (.inl (fun _ => 0)))))) (h_r1 : f r1 = some (.inr (6, [.ref r1e, .int 0, .int 0, .int 0]))) (h_r1e : f r1e = some (.inl (cy 2, 20, .inr (.inr (.inl (fun _ => 0)))))) (h_m : f m = some (.inr (11, [.int 0, .int 0, .ref v, .ref im, .ref kp, .ref pa, .ref de, .ref ide, .int 0, .int 0, .ref mtx, .int 0, .int (-1), .int (-1), .ref pt, .int 0, .int 0, .int 0, .ref so, .ref mo, .ref wh, .ref pf]))) (h_v : f v = some (.inl (cy 0, 6441, .inl (fun _ => 0)))) (h_im : f im = some (.inl (cy 0, 6441, .inl (fun _ => 0)))) (h_kp : f kp = some (.inl (cy 0, 6441, .inl (fun _ => 0)))) (h_pa : f pa = some (.inl (cy 0, 51528, .inl (fun _ => 0)))) (h_de : f de = some (.inl (cy 0, 24000, .inl (fun _ => 0)))) (h_ide : f ide = some (.inl (cy 0, 24000, .inl (fun _ => 0)))) (h_mtx : f mtx = some (.inl (cy 0, 60, .inl (fun _ => 0)))) (h_pt : f pt = some (.inl (cy 0, 240, .inl (fun _ => 0)))) (h_so : f so = some (.inl (cy 0, 2, .inl (fun _ => 0)))) (h_mo : f mo = some (.inl (cy 0, 2, .inl (fun _ => 0)))) (h_wh : f wh = some (.inl (cy 0, 42, .inl (fun _ => 0)))) (h_pf : f pf = some (.inl (cy 2, 42, .inr (.inr (.inl (fun _ => 0)))))) (h_out : f out = some (.inl (cy 5, 1, .inr (.inl (fun _ => 0))))) (h_outD : f outD = some (.inl (cy 6, 1, .inr (.inr (.inr (.inl (fun _ => 0))))))) : WJ (wAD sc A [lg, ln, lst, len, sv, sn, sst, sen, tx, bf, tn, tp, r0, r0e, r1, r1e, m, v, im, kp, pa, de, ide, mtx, pt, so, mo, wh, pf, out, outD] outD) cy q q2 0 0 (fun _ => 0) f := by
  obtain ⟨o0, o1, o2, o3, o4, o5, o6, o7, o8, o9, o10, o11, o12, o13, o14, o15, o16, o17, o18, o19, o20, o21, o22, o23, o24, o25, o26, o27, o28, o29⟩ := h3
  have hm : ∀ k, mkA [lg, ln, lst, len, sv, sn, sst, sen, tx, bf, tn, tp, r0, r0e, r1, r1e, m, v, im, kp, pa, de, ide, mtx, pt, so, mo, wh, pf, out, outD] outD k < mkA [lg, ln, lst, len, sv, sn, sst, sen, tx, bf, tn, tp, r0, r0e, r1, r1e, m, v, im, kp, pa, de, ide, mtx, pt, so, mo, wh, pf, out, outD] outD (k + 1) := fun k => mkA_mono _ _ (fun k hk => by
    have hk : k + 1 < 31 := hk
    rcases (show k = 0 ∨ k = 1 ∨ k = 2 ∨ k = 3 ∨ k = 4 ∨ k = 5 ∨ k = 6 ∨ k = 7 ∨ k = 8 ∨ k = 9 ∨ k = 10 ∨ k = 11 ∨ k = 12 ∨ k = 13 ∨ k = 14 ∨ k = 15 ∨ k = 16 ∨ k = 17 ∨ k = 18 ∨ k = 19 ∨ k = 20 ∨ k = 21 ∨ k = 22 ∨ k = 23 ∨ k = 24 ∨ k = 25 ∨ k = 26 ∨ k = 27 ∨ k = 28 ∨ k = 29 by omega) with rfl | rfl | rfl | rfl | rfl | rfl | rfl | rfl | rfl | rfl | rfl | rfl | rfl | rfl | rfl | rfl | rfl | rfl | rfl | rfl | rfl | rfl | rfl | rfl | rfl | rfl | rfl | rfl | rfl | rfl
    · exact o0
    · exact o1
    · exact o2
    · exact o3
    · exact o4
    · exact o5
    · exact o6
    · exact o7
    · exact o8
    · exact o9
    · exact o10
    · exact o11
    · exact o12
    · exact o13
    · exact o14
    · exact o15
    · exact o16
    · exact o17
    · exact o18
    · exact o19
    · exact o20
    · exact o21
    · exact o22
    · exact o23
    · exact o24
    · exact o25
    · exact o26
    · exact o27
    · exact o28
    · exact o29
    ) (fun k hk => by
    have hk : k < 31 := hk
    rcases (show k = 0 ∨ k = 1 ∨ k = 2 ∨ k = 3 ∨ k = 4 ∨ k = 5 ∨ k = 6 ∨ k = 7 ∨ k = 8 ∨ k = 9 ∨ k = 10 ∨ k = 11 ∨ k = 12 ∨ k = 13 ∨ k = 14 ∨ k = 15 ∨ k = 16 ∨ k = 17 ∨ k = 18 ∨ k = 19 ∨ k = 20 ∨ k = 21 ∨ k = 22 ∨ k = 23 ∨ k = 24 ∨ k = 25 ∨ k = 26 ∨ k = 27 ∨ k = 28 ∨ k = 29 ∨ k = 30 by omega) with rfl | rfl | rfl | rfl | rfl | rfl | rfl | rfl | rfl | rfl | rfl | rfl | rfl | rfl | rfl | rfl | rfl | rfl | rfl | rfl | rfl | rfl | rfl | rfl | rfl | rfl | rfl | rfl | rfl | rfl | rfl
    · show lg ≤ outD; omega
    · show ln ≤ outD; omega
    · show lst ≤ outD; omega
    · show len ≤ outD; omega
    · show sv ≤ outD; omega
    · show sn ≤ outD; omega
    · show sst ≤ outD; omega
    · show sen ≤ outD; omega
    · show tx ≤ outD; omega
    · show bf ≤ outD; omega
    · show tn ≤ outD; omega
    · show tp ≤ outD; omega
    · show r0 ≤ outD; omega
    · show r0e ≤ outD; omega
    · show r1 ≤ outD; omega
    · show r1e ≤ outD; omega
    · show m ≤ outD; omega
    · show v ≤ outD; omega
    · show im ≤ outD; omega
    · show kp ≤ outD; omega
    · show pa ≤ outD; omega
    · show de ≤ outD; omega
    · show ide ≤ outD; omega
    · show mtx ≤ outD; omega
    · show pt ≤ outD; omega
    · show so ≤ outD; omega
    · show mo ≤ outD; omega
    · show wh ≤ outD; omega
    · show pf ≤ outD; omega
    · show out ≤ outD; omega
    · show outD ≤ outD; omega
    ) (by show 0 < 31; decide) k
  have hA : AOK (wAD sc A [lg, ln, lst, len, sv, sn, sst, sen, tx, bf, tn, tp, r0, r0e, r1, r1e, m, v, im, kp, pa, de, ide, mtx, pt, so, mo, wh, pf, out, outD] outD) q q2 := ⟨wAD_mono h0 h1 h2 hm, HQ_congr (fun i hi => wAD_A (by omega)) hQ, HQ_congr (fun i hi => wAD_A (by omega)) hQ2⟩
  have hMM : MW (AM (wAD sc A [lg, ln, lst, len, sv, sn, sst, sen, tx, bf, tn, tp, r0, r0e, r1, r1e, m, v, im, kp, pa, de, ide, mtx, pt, so, mo, wh, pf, out, outD] outD)) 0 cy q (fun _ => 0) iS f := MW_congr (fun i hi => wAD_A (by omega)) hM
  have hMM2 : MW (AM (wAD sc A [lg, ln, lst, len, sv, sn, sst, sen, tx, bf, tn, tp, r0, r0e, r1, r1e, m, v, im, kp, pa, de, ide, mtx, pt, so, mo, wh, pf, out, outD] outD)) 54 cy q2 (fun _ => 0) iS f := MW_congr (fun i hi => wAD_A (by omega)) hM2
  have a109 : wAD sc A [lg, ln, lst, len, sv, sn, sst, sen, tx, bf, tn, tp, r0, r0e, r1, r1e, m, v, im, kp, pa, de, ide, mtx, pt, so, mo, wh, pf, out, outD] outD 109 = lg := rfl
  have a110 : wAD sc A [lg, ln, lst, len, sv, sn, sst, sen, tx, bf, tn, tp, r0, r0e, r1, r1e, m, v, im, kp, pa, de, ide, mtx, pt, so, mo, wh, pf, out, outD] outD 110 = ln := rfl
  have a111 : wAD sc A [lg, ln, lst, len, sv, sn, sst, sen, tx, bf, tn, tp, r0, r0e, r1, r1e, m, v, im, kp, pa, de, ide, mtx, pt, so, mo, wh, pf, out, outD] outD 111 = lst := rfl
  have a112 : wAD sc A [lg, ln, lst, len, sv, sn, sst, sen, tx, bf, tn, tp, r0, r0e, r1, r1e, m, v, im, kp, pa, de, ide, mtx, pt, so, mo, wh, pf, out, outD] outD 112 = len := rfl
  have a113 : wAD sc A [lg, ln, lst, len, sv, sn, sst, sen, tx, bf, tn, tp, r0, r0e, r1, r1e, m, v, im, kp, pa, de, ide, mtx, pt, so, mo, wh, pf, out, outD] outD 113 = sv := rfl
  have a114 : wAD sc A [lg, ln, lst, len, sv, sn, sst, sen, tx, bf, tn, tp, r0, r0e, r1, r1e, m, v, im, kp, pa, de, ide, mtx, pt, so, mo, wh, pf, out, outD] outD 114 = sn := rfl
  have a115 : wAD sc A [lg, ln, lst, len, sv, sn, sst, sen, tx, bf, tn, tp, r0, r0e, r1, r1e, m, v, im, kp, pa, de, ide, mtx, pt, so, mo, wh, pf, out, outD] outD 115 = sst := rfl
  have a116 : wAD sc A [lg, ln, lst, len, sv, sn, sst, sen, tx, bf, tn, tp, r0, r0e, r1, r1e, m, v, im, kp, pa, de, ide, mtx, pt, so, mo, wh, pf, out, outD] outD 116 = sen := rfl
  have a117 : wAD sc A [lg, ln, lst, len, sv, sn, sst, sen, tx, bf, tn, tp, r0, r0e, r1, r1e, m, v, im, kp, pa, de, ide, mtx, pt, so, mo, wh, pf, out, outD] outD 117 = tx := rfl
  have a118 : wAD sc A [lg, ln, lst, len, sv, sn, sst, sen, tx, bf, tn, tp, r0, r0e, r1, r1e, m, v, im, kp, pa, de, ide, mtx, pt, so, mo, wh, pf, out, outD] outD 118 = bf := rfl
  have a119 : wAD sc A [lg, ln, lst, len, sv, sn, sst, sen, tx, bf, tn, tp, r0, r0e, r1, r1e, m, v, im, kp, pa, de, ide, mtx, pt, so, mo, wh, pf, out, outD] outD 119 = tn := rfl
  have a120 : wAD sc A [lg, ln, lst, len, sv, sn, sst, sen, tx, bf, tn, tp, r0, r0e, r1, r1e, m, v, im, kp, pa, de, ide, mtx, pt, so, mo, wh, pf, out, outD] outD 120 = tp := rfl
  have a121 : wAD sc A [lg, ln, lst, len, sv, sn, sst, sen, tx, bf, tn, tp, r0, r0e, r1, r1e, m, v, im, kp, pa, de, ide, mtx, pt, so, mo, wh, pf, out, outD] outD 121 = r0 := rfl
  have a122 : wAD sc A [lg, ln, lst, len, sv, sn, sst, sen, tx, bf, tn, tp, r0, r0e, r1, r1e, m, v, im, kp, pa, de, ide, mtx, pt, so, mo, wh, pf, out, outD] outD 122 = r0e := rfl
  have a123 : wAD sc A [lg, ln, lst, len, sv, sn, sst, sen, tx, bf, tn, tp, r0, r0e, r1, r1e, m, v, im, kp, pa, de, ide, mtx, pt, so, mo, wh, pf, out, outD] outD 123 = r1 := rfl
  have a124 : wAD sc A [lg, ln, lst, len, sv, sn, sst, sen, tx, bf, tn, tp, r0, r0e, r1, r1e, m, v, im, kp, pa, de, ide, mtx, pt, so, mo, wh, pf, out, outD] outD 124 = r1e := rfl
  have a125 : wAD sc A [lg, ln, lst, len, sv, sn, sst, sen, tx, bf, tn, tp, r0, r0e, r1, r1e, m, v, im, kp, pa, de, ide, mtx, pt, so, mo, wh, pf, out, outD] outD 125 = m := rfl
  have a126 : wAD sc A [lg, ln, lst, len, sv, sn, sst, sen, tx, bf, tn, tp, r0, r0e, r1, r1e, m, v, im, kp, pa, de, ide, mtx, pt, so, mo, wh, pf, out, outD] outD 126 = v := rfl
  have a127 : wAD sc A [lg, ln, lst, len, sv, sn, sst, sen, tx, bf, tn, tp, r0, r0e, r1, r1e, m, v, im, kp, pa, de, ide, mtx, pt, so, mo, wh, pf, out, outD] outD 127 = im := rfl
  have a128 : wAD sc A [lg, ln, lst, len, sv, sn, sst, sen, tx, bf, tn, tp, r0, r0e, r1, r1e, m, v, im, kp, pa, de, ide, mtx, pt, so, mo, wh, pf, out, outD] outD 128 = kp := rfl
  have a129 : wAD sc A [lg, ln, lst, len, sv, sn, sst, sen, tx, bf, tn, tp, r0, r0e, r1, r1e, m, v, im, kp, pa, de, ide, mtx, pt, so, mo, wh, pf, out, outD] outD 129 = pa := rfl
  have a130 : wAD sc A [lg, ln, lst, len, sv, sn, sst, sen, tx, bf, tn, tp, r0, r0e, r1, r1e, m, v, im, kp, pa, de, ide, mtx, pt, so, mo, wh, pf, out, outD] outD 130 = de := rfl
  have a131 : wAD sc A [lg, ln, lst, len, sv, sn, sst, sen, tx, bf, tn, tp, r0, r0e, r1, r1e, m, v, im, kp, pa, de, ide, mtx, pt, so, mo, wh, pf, out, outD] outD 131 = ide := rfl
  have a132 : wAD sc A [lg, ln, lst, len, sv, sn, sst, sen, tx, bf, tn, tp, r0, r0e, r1, r1e, m, v, im, kp, pa, de, ide, mtx, pt, so, mo, wh, pf, out, outD] outD 132 = mtx := rfl
  have a133 : wAD sc A [lg, ln, lst, len, sv, sn, sst, sen, tx, bf, tn, tp, r0, r0e, r1, r1e, m, v, im, kp, pa, de, ide, mtx, pt, so, mo, wh, pf, out, outD] outD 133 = pt := rfl
  have a134 : wAD sc A [lg, ln, lst, len, sv, sn, sst, sen, tx, bf, tn, tp, r0, r0e, r1, r1e, m, v, im, kp, pa, de, ide, mtx, pt, so, mo, wh, pf, out, outD] outD 134 = so := rfl
  have a135 : wAD sc A [lg, ln, lst, len, sv, sn, sst, sen, tx, bf, tn, tp, r0, r0e, r1, r1e, m, v, im, kp, pa, de, ide, mtx, pt, so, mo, wh, pf, out, outD] outD 135 = mo := rfl
  have a136 : wAD sc A [lg, ln, lst, len, sv, sn, sst, sen, tx, bf, tn, tp, r0, r0e, r1, r1e, m, v, im, kp, pa, de, ide, mtx, pt, so, mo, wh, pf, out, outD] outD 136 = wh := rfl
  have a137 : wAD sc A [lg, ln, lst, len, sv, sn, sst, sen, tx, bf, tn, tp, r0, r0e, r1, r1e, m, v, im, kp, pa, de, ide, mtx, pt, so, mo, wh, pf, out, outD] outD 137 = pf := rfl
  have a138 : wAD sc A [lg, ln, lst, len, sv, sn, sst, sen, tx, bf, tn, tp, r0, r0e, r1, r1e, m, v, im, kp, pa, de, ide, mtx, pt, so, mo, wh, pf, out, outD] outD 138 = out := rfl
  have a139 : wAD sc A [lg, ln, lst, len, sv, sn, sst, sen, tx, bf, tn, tp, r0, r0e, r1, r1e, m, v, im, kp, pa, de, ide, mtx, pt, so, mo, wh, pf, out, outD] outD 139 = outD := rfl
  have a0 : wAD sc A [lg, ln, lst, len, sv, sn, sst, sen, tx, bf, tn, tp, r0, r0e, r1, r1e, m, v, im, kp, pa, de, ide, mtx, pt, so, mo, wh, pf, out, outD] outD 0 = sc := rfl
  have b0 : AM (wAD sc A [lg, ln, lst, len, sv, sn, sst, sen, tx, bf, tn, tp, r0, r0e, r1, r1e, m, v, im, kp, pa, de, ide, mtx, pt, so, mo, wh, pf, out, outD] outD) (0 + 0) = A 0 := wAD_A (by omega)
  have b54 : AM (wAD sc A [lg, ln, lst, len, sv, sn, sst, sen, tx, bf, tn, tp, r0, r0e, r1, r1e, m, v, im, kp, pa, de, ide, mtx, pt, so, mo, wh, pf, out, outD] outD) (54 + 0) = A 54 := wAD_A (by omega)
  generalize wAD sc A [lg, ln, lst, len, sv, sn, sst, sen, tx, bf, tn, tp, r0, r0e, r1, r1e, m, v, im, kp, pa, de, ide, mtx, pt, so, mo, wh, pf, out, outD] outD = AD at hA hMM hMM2 a109 a110 a111 a112 a113 a114 a115 a116 a117 a118 a119 a120 a121 a122 a123 a124 a125 a126 a127 a128 a129 a130 a131 a132 a133 a134 a135 a136 a137 a138 a139 a0 b0 b54 ⊢
  subst a0
  subst a109
  subst a110
  subst a111
  subst a112
  subst a113
  subst a114
  subst a115
  subst a116
  subst a117
  subst a118
  subst a119
  subst a120
  subst a121
  subst a122
  subst a123
  subst a124
  subst a125
  subst a126
  subst a127
  subst a128
  subst a129
  subst a130
  subst a131
  subst a132
  subst a133
  subst a134
  subst a135
  subst a136
  subst a137
  subst a138
  subst a139
  have hXC : XC AD f (-1) (-1) 0 := by
    unfold XC
    rw [b0, b54]
    exact h_sc
  have hr0 : ∀ b : Nat, JRW b 0 0 0 (fun _ => 0) (fun _ => 0) (fun _ => 0) (fun _ => 0) (fun _ => 0) := fun b => ⟨0, by omega, rfl, Or.inl rfl, Or.inl ⟨rfl, rfl⟩⟩
  exact ⟨hA, -1, -1, 0, 0, 0, 0, 0, 0, fun _ => 0, iS, 0, 0, 0, fun _ => 0, fun _ _ => 0, fun _ => 0, fun _ => 0, fun _ => 0, hXC, ⟨0, 0, 0, h_m⟩, ⟨hMM, h_lg, h_len, _, fun _ => 0, h_lst, fun j hj => absurd hj (by omega)⟩, ⟨h_v, h_pa, h_de⟩, ⟨⟨0, 0, 0, 0, 0, 0, fun _ => 0, fun _ _ => 0, fun _ => 0, fun _ => 0, ⟨h_sv, h_sen, _, fun _ => 0, h_sst, fun j hj => absurd hj (by omega)⟩, h_im, h_ide, Or.inl ⟨rfl, rfl, rfl, rfl⟩, by omega⟩, ⟨fun _ => 0, fun _ => 0, ⟨⟨0, h_tx⟩, h_bf, _, h_tp⟩, h_mtx, CHR0, fun _ => rfl⟩, ⟨0, 0, 0, 0, 0, 0, fun _ => 0, fun _ => 0, fun _ => 0, fun _ => 0, fun _ => 0, fun _ => 0, ⟨h_r0, h_r0e⟩, ⟨h_r1, h_r1e⟩, ⟨h_so, h_mo, h_wh, h_pf⟩, hr0 0, hr0 1⟩, ⟨⟨_, _, hMM2⟩, ⟨_, h_kp⟩, ⟨_, h_pt⟩⟩, ⟨_, h_outD⟩⟩, h_out, Or.inl ⟨rfl, rfl, fun _ _ => rfl, rfl, rfl, rfl⟩, by omega⟩
