/-! single to double: no NaN comes of none -/
theorem f2d_n {x : UInt32} (h : vf_n32 x) : vf_n64 (FP.f2d x) := by
  unfold vf_n32 at h
  rw [UInt32.le_iff_toNat_le, UInt32.toNat_and, show (0x7fffffff : UInt32).toNat = 2 ^ 31 - 1 from by decide, Nat.and_two_pow_sub_one_eq_mod, show (0x7f800000 : UInt32).toNat = 2139095040 from by decide] at h
  have hx := x.toNat_lt
  have hd : ∀ d, FP.Core.decode FP.Core.b32 x.toNat = d → d ≠ .nan := by
    intro d hd q
    rw [q] at hd
    unfold FP.Core.decode FP.Core.fieldE FP.Core.fieldT FP.Core.fieldS at hd
    have t1 : FP.Core.b32.tails = 8388608 := by decide
    have t2 : FP.Core.b32.exps = 256 := by decide
    rw [t1, t2] at hd
    split at hd
    · split at hd
      · cases hd
      · omega
    · split at hd <;> cases hd
  have hn : FP.Core.fIsNaN x = false := by
    unfold FP.Core.fIsNaN FP.Core.isNaN
    exact decide_eq_false (hd _ rfl)
  have hok : fpOk FP.Core.b64 (FP.Core.round FP.Core.b64 (FP.Core.decode FP.Core.b32 x.toNat)) := by
    have hd2 := hd _ rfl
    revert hd2
    generalize FP.Core.decode FP.Core.b32 x.toNat = d
    intro hd2
    cases d with
    | nan => exact absurd rfl hd2
    | inf s => exact Or.inl ⟨s, rfl⟩
    | fin s c q => exact fp_rr fpF64 s c 1 q
  have K := fp_enc fpF64 hok
  have hs : 2 * (FP.Core.b64.exps * FP.Core.b64.tails) = 18446744073709551616 := by decide
  have hs2 : FP.Core.b64.exps * FP.Core.b64.tails = 9223372036854775808 := by decide
  have hs3 : (FP.Core.b64.exps - 1) * FP.Core.b64.tails = 9218868437227405312 := by decide
  rw [hs, hs2, hs3] at K
  have e0 : FP.f2d x = FP.Core.f2d x := by
    unfold FP.f2d
    rw [hn]; rfl
  unfold vf_n64
  rw [e0, UInt64.le_iff_toNat_le, UInt64.toNat_and]
  have e3 : (FP.Core.f2d x).toNat = FP.Core.encode FP.Core.b64 (FP.Core.round FP.Core.b64 (FP.Core.decode FP.Core.b32 x.toNat)) := by
    show (UInt64.ofNat _).toNat = _
    exact UInt64.toNat_ofNat_of_lt' K.2
  rw [e3, show (0x7fffffffffffffff : UInt64).toNat = 2 ^ 63 - 1 from by decide, Nat.and_two_pow_sub_one_eq_mod]
  exact K.1
section AX
variable {AD : Nat → Nat} {q q2 : Nat → Option Nat} {cy : Nat → ClassId} {f u : Hf} {k : Nat} {th : Int32} {o : Nat → Int64}
theorem fr_0 (hA : AOK AD q q2) (h : hFrL f u []) : FR AD f u (fun _ => False) := FR_mk hA h (fun y hy => by cases hy) (fun i hi => hi.elim)
theorem WJ_I {I : Nat → Prop} (h : WJ AD cy q q2 k th o f) (F : FR AD f u I) (hI : ∀ i, i ≤ 138 → ¬ I i) (hO : ∃ od, OUD AD cy u od) : WJ AD cy q q2 k th o u := by
  obtain ⟨hA, xa, xr, xk, hi, tl, w, nS, nC, cm, cs, lo, le, lfi, ge, SS, g, gp, gd, hX, hMc, hC, hRm, ⟨r1, r2, r3, r4, -⟩, hO1, hJ, hb⟩ := h
  refine ⟨hA, xa, xr, xk, hi, tl, w, nS, nC, cm, cs, lo, le, lfi, ge, SS, g, gp, gd, XC_fr F (hI _ (by omega)) hX, MC_fr F (hI _ (by omega)) hMc, CMN_fr F (fun i h1 h2 => hI _ (by omega)) (hI _ (by omega)) (hI _ (by omega)) (hI _ (by omega)) hC, RMN_fr F (hI _ (by omega)) (hI _ (by omega)) (hI _ (by omega)) hRm, ⟨SVG_fr F (hI _ (by omega)) (hI _ (by omega)) (hI _ (by omega)) (hI _ (by omega)) (hI _ (by omega)) (Nat.le_refl _) r1, TXG_fr F (hI _ (by omega)) (hI _ (by omega)) (hI _ (by omega)) (hI _ (by omega)) r2, ROG_fr F (fun i h1 h2 => hI _ (by omega)) (fun i h1 h2 => hI _ (by omega)) r3, JNK_fr F (fun i h1 h2 => hI _ (by omega)) (hI _ (by omega)) (hI _ (by omega)) r4, hO⟩, OUT_fr F (hI _ (by omega)) hO1, hJ, hb⟩
theorem WJ_od (h : WJ AD cy q q2 k th o f) : ∃ od, OUD AD cy f od := by
  obtain ⟨hA, xa, xr, xk, hi, tl, w, nS, nC, cm, cs, lo, le, lfi, ge, SS, g, gp, gd, hX, hMc, hC, hRm, ⟨r1, r2, r3, r4, r5⟩, hO1, hJ, hb⟩ := h
  exact r5
theorem WJ_fr0 (h : WJ AD cy q q2 k th o f) (hf : hFrL f u []) : WJ AD cy q q2 k th o u := by
  have F := fr_0 h.1 hf
  obtain ⟨od, h2⟩ := WJ_od h
  exact WJ_I h F (fun _ _ => id) ⟨od, OUD_fr F id h2⟩
theorem WJ_outD {od x : Nat → UInt64} (h : WJ AD cy q q2 k th o f) (hod : OUD AD cy f od) (hu : u = va_up f (AD 139) (some (.inl (cy 6, 1, .inr (.inr (.inr (.inl x))))))) : WJ AD cy q q2 k th o u := by
  obtain ⟨F, h2⟩ := FR_up h.1 (nsc_a hod) hu
  exact WJ_I h F (fun i hi q => by omega) ⟨_, h2⟩
theorem WJ_out {x : Nat → Int64} (h : WJ AD cy q q2 k th o f) (hu : u = va_up f (AD 138) (some (.inl (cy 5, 1, .inr (.inl x))))) : WJ AD cy q q2 k th x u := by
  obtain ⟨hA, xa, xr, xk, hi, tl, w, nS, nC, cm, cs, lo, le, lfi, ge, SS, g, gp, gd, hX, hMc, hC, hRm, hRs, hO1, hJ, hb⟩ := h
  obtain ⟨F, h2⟩ := FR_up hA (nsc_a hO1) hu
  exact ⟨hA, xa, xr, xk, hi, tl, w, nS, nC, cm, cs, lo, le, lfi, ge, SS, g, gp, gd, XC_fr F (by omega) hX, MC_fr F (by omega) hMc, CMN_fr F (fun i h1 h2 => by omega) (by omega) (by omega) (by omega) hC, RMN_fr F (by omega) (by omega) (by omega) hRm, RST_fr F (fun i h => by omega) (Nat.le_refl _) hRs, h2, hJ, hb⟩
/-- the reference's object alone changes: what the last call threw -/
theorem WJ_m {I : Nat → Prop} {th' : Int32} (h : WJ AD cy q q2 k th o f) (F : FR AD f u I) (hI : ∀ i, i ≠ 125 → ¬ I i) (hm : ∀ xa xr xk w hi tl, MC AD f th xk (nI w) hi (nI tl) xa xr → MC AD u th' xk (nI w) hi (nI tl) xa xr) : WJ AD cy q q2 (k + 1) th' o u := by
  obtain ⟨hA, xa, xr, xk, hi, tl, w, nS, nC, cm, cs, lo, le, lfi, ge, SS, g, gp, gd, hX, hMc, hC, hRm, hRs, hO1, hJ, hb⟩ := h
  exact ⟨hA, xa, xr, xk, hi, tl, w, nS, nC, cm, cs, lo, le, lfi, ge, SS, g, gp, gd, XC_fr F (hI _ (by omega)) hX, hm _ _ _ _ _ _ hMc, CMN_fr F (fun i h1 h2 => hI _ (by omega)) (hI _ (by omega)) (hI _ (by omega)) (hI _ (by omega)) hC, RMN_fr F (hI _ (by omega)) (hI _ (by omega)) (hI _ (by omega)) hRm, RST_fr F (fun i h => hI _ (by omega)) (by omega) hRs, OUT_fr F (hI _ (by omega)) hO1, hJ, by omega⟩
end AX
/-- what a begun innings says -/
theorem JM_beg {cm : Nat → Int32} {cs : Nat → Nat → Nat → Int32} {lo le lfi : Int32} {w nS nC : Nat} {ge : Nat → Int32} {SS : Nat → Nat → Int32} {g gp gd : Nat → Int32} {i : Int32} (h : JM cm cs lo le lfi w nS nC ge SS g gp gd) (hi : ¬ X2_hasBegun_x2 (cm 0) (cm 4) i = 0) : ∃ j, j < 4 ∧ i = nI j ∧ cs j 7 0 = 1 ∧ cs j 7 1 = 11 ∧ cs j 7 2 = 11 := by
  unfold X2_hasBegun_x2 X2_hasBegun_x1 X2_hasBegun_x0 at hi
  rcases h with ⟨-, h0, -⟩ | h
  · rw [if_pos h0] at hi; exact absurd rfl hi
  · obtain ⟨n, SB, RP, RF, OC, ⟨b1, b2, b3, b4, b5, b6, b7, b8, b9, b10⟩, hs, hp, -⟩ := JL_RR h
    rw [if_neg (show ¬ cm 0 = 0 by rw [b4]; decide)] at hi
    by_cases q1 : i < 0
    · rw [if_pos q1] at hi; exact absurd rfl hi
    · rw [if_neg q1] at hi
      by_cases q2 : cm 4 < i
      · rw [if_pos q2] at hi; exact absurd rfl hi
      · rw [b2] at q2
        obtain ⟨j, j1, j2⟩ := in_nat (n := n) (by omega) (Int32.not_lt.mp q1) (Int32.not_lt.mp q2)
        obtain ⟨r0, r1, r2⟩ := (hp j j1).2.2.2.2.1
        exact ⟨j, by omega, j2, r0, r1, r2⟩
theorem JM_g4 {cm : Nat → Int32} {cs : Nat → Nat → Nat → Int32} {lo le lfi : Int32} {w nS nC : Nat} {ge : Nat → Int32} {SS : Nat → Nat → Int32} {g gp gd : Nat → Int32} (h : JM cm cs lo le lfi w nS nC ge SS g gp gd) : ∃ i, i < 4 ∧ g 4 = nI i := ⟨_, (JM_4 h).2, (JM_4 h).1⟩
theorem c4 {k : Nat} (h : k < 4) : k = 0 ∨ k = 1 ∨ k = 2 ∨ k = 3 := by omega
