def X2_perform02_M (cm : Nat → Int32) (cs : Nat → Nat → Nat → Int32) (S : Nat → Int32) : Nat → Int32
  | 0 => (cm 0)
  | 1 => (cm 1)
  | 2 => 2
  | 3 => (cm 3)
  | 4 => (X2_perform02_x26 (cs 0 6 11) (cs 0 6 12) (cs 0 1) (cs 0 6 0) (cs 0 6 2) (cs 0 6 5) (S 0) (S 1) (S 3))
  | k => cm k
def X2_perform02_S (cm : Nat → Int32) (cs : Nat → Nat → Nat → Int32) (S : Nat → Int32) : Nat → Nat → Nat → Int32
  | 0, 0 => (X2_perform02_g24 (cs 0 6 11) (cs 0 6 12) (cs 0 0) (cs 0 1) (cs 0 6 0) (cs 0 6 2) (cs 0 6 5) (S 0) (S 1) (S 3) (S 4))
  | 0, 1 => (X2_perform02_g10 (cs 0 6 9) (cs 0 6 10) (cs 0 6 11) (cs 0 1) (cs 0 6 3) (S 0) (S 2) (S 3) (S 4) (S 5) (S 6) (S 8))
  | 0, 2 => (X2_perform02_g9 (cs 0 2) (cs 0 6 3) (cs 0 6 5) (cs 0 6 6) (S 0) (S 2) (S 3) (S 4))
  | 0, 3 => (X2_perform02_g11 (cs 0 6 9) (cs 0 6 10) (cs 0 6 11) (cs 0 1) ((cs 0 7 3).toNatClampNeg) (cs 0 3) (S 0) (S 3) (S 4) (S 5) (S 6) (S 7))
  | 0, 4 => (X2_perform02_g19 (cs 0 6 9) (cs 0 6 10) (cs 0 0) ((cs 0 7 4).toNatClampNeg) (cs 0 4) (S 0) (S 3) (S 4) (S 5))
  | 0, 5 => (X2_perform02_g17 (cs 0 0) (cs 0 6 2) (cs 0 6 5) (cs 0 5) (S 0) (S 3) (S 4))
  | 0, 6 => fun k => match k with | 0 => (X2_perform02_x1 (cs 0 6 0) (S 0) (S 1)) | 1 => (cs 0 6 1) | 2 => (X2_perform02_x2 (cs 0 6 2) (cs 0 6 5) (S 0) (S 3)) | 3 => (X2_perform02_x3 (cs 0 6 3) (cs 0 6 5) (S 0) (S 1) (S 3)) | 4 => (X2_perform02_x4 (cs 0 6 3) (cs 0 6 4) (cs 0 6 5) (S 0) (S 3)) | 5 => (X2_perform02_x5 (cs 0 6 5) (S 0) (S 3)) | 6 => (X2_perform02_x6 (cs 0 6 5) (cs 0 6 6) (S 0) (S 3) (S 4)) | 7 => (X2_perform02_x7 (cs 0 6 5) (cs 0 6 7) (S 0) (S 3)) | 8 => (X2_perform02_x12 (cs 0 6 8) (cs 0 0) (cs 0 6 0) (S 0) (S 1)) | 9 => (X2_perform02_x13 (cs 0 6 9) (cs 0 6 10) (cs 0 6 11) (cs 0 1) (cs 0 6 5) (S 0) (S 3) (S 4) (S 5) (S 6) (S 7)) | 10 => (X2_perform02_x14 (cs 0 6 9) (cs 0 6 10) (cs 0 6 11) (cs 0 1) (cs 0 6 5) (S 0) (S 3) (S 4) (S 5) (S 6) (S 7)) | 11 => (X2_perform02_x25 (cs 0 6 11) (cs 0 6 12) (cs 0 1) (cs 0 6 0) (cs 0 6 2) (cs 0 6 5) (S 0) (S 1) (S 3)) | 12 => (X2_perform02_x16 (cs 0 6 11) (cs 0 6 12) (cs 0 1) (S 0)) | k => cs 0 6 k
  | 0, 7 => fun k => match k with | 3 => (X2_perform02_x20 (cs 0 6 11) (cs 0 1) ((cs 0 7 3).toNatClampNeg) (S 0)) | 4 => nI (X2_perform02_n18 ((cs 0 7 4).toNatClampNeg) (S 0)) | k => cs 0 7 k
  | 1, 0 => (X2_perform02_g28 (cs 0 6 11) (cs 0 6 12) (cs 0 1) (cs 0 6 0) (cs 0 6 2) (cs 0 6 5) (cs 1 0) (S 0) (S 1) (S 3))
  | 1, 1 => (X2_perform02_g30 (cs 0 6 11) (cs 0 6 12) (cs 0 1) (cs 0 6 0) (cs 0 6 2) (cs 0 6 5) (cs 1 1) (S 0) (S 1) (S 3))
  | 1, 2 => (X2_perform02_g32 (cs 0 6 11) (cs 0 6 12) (cs 0 1) (cs 0 6 0) (cs 0 6 2) (cs 0 6 5) (cs 1 2) (S 0) (S 1) (S 3))
  | 1, 3 => (X2_perform02_g34 (cs 0 6 11) (cs 0 6 12) (cs 0 1) (cs 0 6 0) (cs 0 6 2) (cs 0 6 5) (cs 1 3) (S 0) (S 1) (S 3))
  | 1, 4 => (X2_perform02_g36 (cs 0 6 11) (cs 0 6 12) (cs 0 1) (cs 0 6 0) (cs 0 6 2) (cs 0 6 5) (cs 1 4) (S 0) (S 1) (S 3))
  | 1, 6 => fun k => match k with | 0 => (X2_perform02_x37 (cs 0 6 11) (cs 0 6 12) (cs 0 1) (cs 0 6 0) (cs 0 6 2) (cs 0 6 5) (cs 1 6 0) (S 0) (S 1) (S 3)) | 1 => (X2_perform02_x38 (cs 0 6 11) (cs 0 6 12) (cs 0 1) (cs 0 6 0) (cs 0 6 2) (cs 0 6 5) (cs 1 6 1) (S 0) (S 1) (S 3)) | 2 => (X2_perform02_x39 (cs 0 6 11) (cs 0 6 12) (cs 0 1) (cs 0 6 0) (cs 0 6 2) (cs 0 6 5) (cs 1 6 2) (S 0) (S 1) (S 3)) | 3 => (X2_perform02_x40 (cs 0 6 11) (cs 0 6 12) (cs 0 1) (cs 0 6 0) (cs 0 6 2) (cs 0 6 5) (cs 1 6 3) (S 0) (S 1) (S 3)) | 4 => (X2_perform02_x41 (cs 0 6 11) (cs 0 6 12) (cs 0 1) (cs 0 6 0) (cs 0 6 2) (cs 0 6 5) (cs 1 6 4) (S 0) (S 1) (S 3)) | 5 => (X2_perform02_x42 (cs 0 6 11) (cs 0 6 12) (cs 0 1) (cs 0 6 0) (cs 0 6 2) (cs 0 6 5) (cs 1 6 5) (S 0) (S 1) (S 3)) | 6 => (X2_perform02_x43 (cs 0 6 11) (cs 0 6 12) (cs 0 1) (cs 0 6 0) (cs 0 6 2) (cs 0 6 5) (cs 1 6 6) (S 0) (S 1) (S 3)) | 7 => (X2_perform02_x44 (cs 0 6 11) (cs 0 6 12) (cs 0 1) (cs 0 6 0) (cs 0 6 2) (cs 0 6 5) (cs 1 6 7) (S 0) (S 1) (S 3)) | 8 => (X2_perform02_x45 (cs 0 6 11) (cs 0 6 12) (cs 0 1) (cs 0 6 0) (cs 0 6 2) (cs 0 6 5) (cs 1 6 8) (cs 1 0) (S 0) (S 1) (S 3)) | 9 => (X2_perform02_x46 (cs 0 6 11) (cs 0 6 12) (cs 0 1) (cs 0 6 0) (cs 0 6 2) (cs 0 6 5) (cs 1 6 9) (S 0) (S 1) (S 3)) | 10 => (X2_perform02_x47 (cs 0 6 11) (cs 0 6 12) (cs 0 1) (cs 0 6 0) (cs 0 6 2) (cs 0 6 5) (cs 1 6 10) (S 0) (S 1) (S 3)) | 11 => (X2_perform02_x48 (cs 0 6 11) (cs 0 6 12) (cs 0 1) (cs 0 6 0) (cs 0 6 2) (cs 0 6 5) (cs 1 6 11) (S 0) (S 1) (S 3)) | 12 => (X2_perform02_x49 (cs 0 6 11) (cs 0 6 12) (cs 0 1) (cs 0 6 0) (cs 0 6 2) (cs 0 6 5) (cs 1 6 12) (S 0) (S 1) (S 3)) | k => cs 1 6 k
  | 1, 7 => fun k => match k with | 0 => (X2_perform02_x27 (cs 0 6 11) (cs 0 6 12) (cs 0 1) (cs 0 6 0) (cs 0 6 2) (cs 0 6 5) (cs 1 7 0) (S 0) (S 1) (S 3)) | 1 => (X2_perform02_x29 (cs 0 6 11) (cs 0 6 12) (cs 0 1) (cs 0 6 0) (cs 0 6 2) (cs 0 6 5) (cs 1 7 1) (S 0) (S 1) (S 3)) | 2 => (X2_perform02_x31 (cs 0 6 11) (cs 0 6 12) (cs 0 1) (cs 0 6 0) (cs 0 6 2) (cs 0 6 5) (cs 1 7 2) (S 0) (S 1) (S 3)) | 3 => (X2_perform02_x33 (cs 0 6 11) (cs 0 6 12) (cs 0 1) (cs 0 6 0) (cs 0 6 2) (cs 0 6 5) (cs 1 7 3) (S 0) (S 1) (S 3)) | 4 => (X2_perform02_x35 (cs 0 6 11) (cs 0 6 12) (cs 0 1) (cs 0 6 0) (cs 0 6 2) (cs 0 6 5) (cs 1 7 4) (S 0) (S 1) (S 3)) | k => cs 1 7 k
  | j, c => cs j c
def X2_perform02_R (cm : Nat → Int32) (cs : Nat → Nat → Nat → Int32) (S : Nat → Int32) : Int32 := (X2_perform02_x0 (cs 0 6 11) (cs 0 0) (cs 0 1) (cs 0 2) (cs 0 6 0) (S 0) (S 1) (S 3) (S 4))
theorem u_X2_perform02 {l : Launch} (hfl : l.stackTraces = false) {D : va_G} {cy : Nat → ClassId} {f : Hf} {sz : Nat} {A : Nat → Nat} {b : Nat} {q : Nat → Option Nat} {cm : Nat → Int32} {cs : Nat → Nat → Nat → Int32} {S : Nat → Int32} {st : Nat} (hM : MW A b cy q cm cs f) (hst : f st = some (scell S)) (hAj : ∀ i j : Nat, i ≠ j → A i ≠ A j) (hQ : HQ A b q) (l0 : cm 2 = 2) (l1 : cm 4 = 0) (l2 : cs 0 7 0 = 1) (l3 : cs 0 7 1 = 11) (l4 : cs 0 7 2 = 11) (l5 : cs 0 7 3 = nI ((cs 0 7 3).toNatClampNeg)) (l6 : cs 0 7 4 = nI ((cs 0 7 4).toNatClampNeg)) (hrp : 1 ≤ ((cs 0 7 3).toNatClampNeg)) (hrp2 : ((cs 0 7 3).toNatClampNeg) < 513) (hrf : ((cs 0 7 4).toNatClampNeg) < 11) : hMet l yX2_perform cX2_perform 5 (some .int) { frames := 4, cells := 0, slots := 0, locals := 92 } D (hTy cy) f sz [.ref (A (b + 0)), .ref st] (hQi (fun r u => r = X2_perform02_R cm cs S ∧ MW A b cy q (X2_perform02_M cm cs S) (X2_perform02_S cm cs S) u ∧ hFrL f u (MA A b)) D f sz) hNo := by
  obtain ⟨hq0, hq1, hq2, hq3⟩ := hQ
  refine h_postI (c_X2_perform02 hfl (rp := ((cs 0 7 3).toNatClampNeg)) (rf := ((cs 0 7 4).toNatClampNeg)) (by have h9 : f (A (b + 0)) = some (.inr (4, [.ref (A (b + 1)), .int (cm 0), .int (cm 1), .int (cm 2), .int (cm 3), .int (cm 4)])) := hM 0 (by omega); rw [l0, l1] at h9; exact h9) (show f (A (b + 1)) = some (.inl (cy 3, 4, .inr (.inr (.inr (.inr q))))) from hM 1 (by omega)) (show f (A (b + 2)) = some (.inr (2, [.ref (A (b + 3)), .ref (A (b + 5)), .ref (A (b + 7)), .ref (A (b + 9)), .ref (A (b + 11)), .ref (A (b + 13)), .int (cs 0 6 8), .int (cs 0 6 9), .int (cs 0 6 10), .int (cs 0 6 11), .int (cs 0 6 12)])) from hM 2 (by omega)) (by have h9 : f (A (b + 3)) = some (.inr (8, [.int 8, .ref (A (b + 4)), .int (cs 0 7 0)])) := hM 3 (by omega); rw [l2] at h9; exact h9) (show f (A (b + 4)) = some (.inl (cy 0, 8, .inl (cs 0 0))) from hM 4 (by omega)) (by have h9 : f (A (b + 5)) = some (.inr (8, [.int 6, .ref (A (b + 6)), .int (cs 0 7 1)])) := hM 5 (by omega); rw [l3] at h9; exact h9) (show f (A (b + 6)) = some (.inl (cy 0, 66, .inl (cs 0 1))) from hM 6 (by omega)) (by have h9 : f (A (b + 7)) = some (.inr (8, [.int 7, .ref (A (b + 8)), .int (cs 0 7 2)])) := hM 7 (by omega); rw [l4] at h9; exact h9) (show f (A (b + 8)) = some (.inl (cy 0, 77, .inl (cs 0 2))) from hM 8 (by omega)) (by have h9 : f (A (b + 9)) = some (.inr (8, [.int 8, .ref (A (b + 10)), .int (cs 0 7 3)])) := hM 9 (by omega); rw [l5] at h9; exact h9) (show f (A (b + 10)) = some (.inl (cy 0, 4104, .inl (cs 0 3))) from hM 10 (by omega)) (by have h9 : f (A (b + 11)) = some (.inr (8, [.int 3, .ref (A (b + 12)), .int (cs 0 7 4)])) := hM 11 (by omega); rw [l6] at h9; exact h9) (show f (A (b + 12)) = some (.inl (cy 0, 33, .inl (cs 0 4))) from hM 12 (by omega)) (show f (A (b + 13)) = some (.inr (5, [.ref (A (b + 14)), .int (cs 0 6 0), .int (cs 0 6 1), .int (cs 0 6 2), .int (cs 0 6 3), .int (cs 0 6 4), .int (cs 0 6 5), .int (cs 0 6 6), .int (cs 0 6 7)])) from hM 13 (by omega)) (show f (A (b + 14)) = some (.inl (cy 0, 20, .inl (cs 0 5))) from hM 14 (by omega)) (show f (A (b + 15)) = some (.inr (2, [.ref (A (b + 16)), .ref (A (b + 18)), .ref (A (b + 20)), .ref (A (b + 22)), .ref (A (b + 24)), .ref (A (b + 26)), .int (cs 1 6 8), .int (cs 1 6 9), .int (cs 1 6 10), .int (cs 1 6 11), .int (cs 1 6 12)])) from hM 15 (by omega)) (show f (A (b + 16)) = some (.inr (8, [.int 8, .ref (A (b + 17)), .int (cs 1 7 0)])) from hM 16 (by omega)) (show f (A (b + 17)) = some (.inl (cy 0, 8, .inl (cs 1 0))) from hM 17 (by omega)) (show f (A (b + 18)) = some (.inr (8, [.int 6, .ref (A (b + 19)), .int (cs 1 7 1)])) from hM 18 (by omega)) (show f (A (b + 19)) = some (.inl (cy 0, 66, .inl (cs 1 1))) from hM 19 (by omega)) (show f (A (b + 20)) = some (.inr (8, [.int 7, .ref (A (b + 21)), .int (cs 1 7 2)])) from hM 20 (by omega)) (show f (A (b + 21)) = some (.inl (cy 0, 77, .inl (cs 1 2))) from hM 21 (by omega)) (show f (A (b + 22)) = some (.inr (8, [.int 8, .ref (A (b + 23)), .int (cs 1 7 3)])) from hM 22 (by omega)) (show f (A (b + 23)) = some (.inl (cy 0, 4104, .inl (cs 1 3))) from hM 23 (by omega)) (show f (A (b + 24)) = some (.inr (8, [.int 3, .ref (A (b + 25)), .int (cs 1 7 4)])) from hM 24 (by omega)) (show f (A (b + 25)) = some (.inl (cy 0, 33, .inl (cs 1 4))) from hM 25 (by omega)) (show f (A (b + 26)) = some (.inr (5, [.ref (A (b + 27)), .int (cs 1 6 0), .int (cs 1 6 1), .int (cs 1 6 2), .int (cs 1 6 3), .int (cs 1 6 4), .int (cs 1 6 5), .int (cs 1 6 6), .int (cs 1 6 7)])) from hM 26 (by omega)) (show f (A (b + 27)) = some (.inl (cy 0, 20, .inl (cs 1 5))) from hM 27 (by omega)) hst hAj hq0 hq1 hq2 hq3 hrp hrp2 hrf) (fun r u h => ?_)
  obtain ⟨hr, k13, k4, k8, k6, k10, k2, k14, k11, k12, k9, k0, k16, k17, k18, k19, k20, k21, k22, k23, k24, k25, k26, k15, fr⟩ := h
  refine ⟨hr, MW_new (T := [13, 4, 8, 6, 10, 2, 14, 11, 12, 9, 0, 16, 17, 18, 19, 20, 21, 22, 23, 24, 25, 26, 15]) hAj hM fr (fun k hk => ?_) (fun k hk hT => ?_), hFrL_mono fr (fun x hx => ?_)⟩
  · simp only [List.mem_cons, List.not_mem_nil, or_false] at hk
    rcases hk with rfl | rfl | rfl | rfl | rfl | rfl | rfl | rfl | rfl | rfl | rfl | rfl | rfl | rfl | rfl | rfl | rfl | rfl | rfl | rfl | rfl | rfl | rfl
    · exact k13
    · exact k4
    · exact k8
    · exact k6
    · exact k10
    · exact k2
    · exact k14
    · exact k11
    · exact k12
    · exact k9
    · exact k0
    · exact k16
    · exact k17
    · exact k18
    · exact k19
    · exact k20
    · exact k21
    · exact k22
    · exact k23
    · exact k24
    · exact k25
    · exact k26
    · exact k15
  · have h9 : k = 1 ∨ k = 3 ∨ k = 5 ∨ k = 7 ∨ k = 27 ∨ k = 28 ∨ k = 29 ∨ k = 30 ∨ k = 31 ∨ k = 32 ∨ k = 33 ∨ k = 34 ∨ k = 35 ∨ k = 36 ∨ k = 37 ∨ k = 38 ∨ k = 39 ∨ k = 40 ∨ k = 41 ∨ k = 42 ∨ k = 43 ∨ k = 44 ∨ k = 45 ∨ k = 46 ∨ k = 47 ∨ k = 48 ∨ k = 49 ∨ k = 50 ∨ k = 51 ∨ k = 52 ∨ k = 53 := by
      simp only [List.mem_cons, List.not_mem_nil, or_false, not_or] at hT
      omega
    rcases h9 with rfl | rfl | rfl | rfl | rfl | rfl | rfl | rfl | rfl | rfl | rfl | rfl | rfl | rfl | rfl | rfl | rfl | rfl | rfl | rfl | rfl | rfl | rfl | rfl | rfl | rfl | rfl | rfl | rfl | rfl | rfl
    all_goals rfl
  · simp only [List.mem_cons, List.not_mem_nil, or_false] at hx
    rcases hx with rfl | rfl | rfl | rfl | rfl | rfl | rfl | rfl | rfl | rfl | rfl | rfl | rfl | rfl | rfl | rfl | rfl | rfl | rfl | rfl | rfl | rfl | rfl
    · exact MA_in (k := 13) (by omega)
    · exact MA_in (k := 4) (by omega)
    · exact MA_in (k := 8) (by omega)
    · exact MA_in (k := 6) (by omega)
    · exact MA_in (k := 10) (by omega)
    · exact MA_in (k := 2) (by omega)
    · exact MA_in (k := 14) (by omega)
    · exact MA_in (k := 11) (by omega)
    · exact MA_in (k := 12) (by omega)
    · exact MA_in (k := 9) (by omega)
    · exact MA_in (k := 0) (by omega)
    · exact MA_in (k := 16) (by omega)
    · exact MA_in (k := 17) (by omega)
    · exact MA_in (k := 18) (by omega)
    · exact MA_in (k := 19) (by omega)
    · exact MA_in (k := 20) (by omega)
    · exact MA_in (k := 21) (by omega)
    · exact MA_in (k := 22) (by omega)
    · exact MA_in (k := 23) (by omega)
    · exact MA_in (k := 24) (by omega)
    · exact MA_in (k := 25) (by omega)
    · exact MA_in (k := 26) (by omega)
    · exact MA_in (k := 15) (by omega)
