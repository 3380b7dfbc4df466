def X2_perform12_M (cm : Nat → Int32) (cs : Nat → Nat → Nat → Int32) (S : Nat → Int32) : Nat → Int32
  | 0 => (cm 0)
  | 1 => (cm 1)
  | 2 => 2
  | 3 => (cm 3)
  | 4 => nI (X2_perform12_n26 (cs 1 6 11) (cs 1 6 12) (cs 1 1) (cs 1 6 0) (cs 1 6 2) (cs 1 6 5) (S 0) (S 1) (S 3))
  | k => cm k
def X2_perform12_S (cm : Nat → Int32) (cs : Nat → Nat → Nat → Int32) (S : Nat → Int32) : Nat → Nat → Nat → Int32
  | 1, 0 => (X2_perform12_g24 (cs 1 6 11) (cs 1 6 12) (cs 1 0) (cs 1 1) (cs 1 6 0) (cs 1 6 2) (cs 1 6 5) (S 0) (S 1) (S 3) (S 4))
  | 1, 1 => (X2_perform12_g10 (cs 1 6 9) (cs 1 6 10) (cs 1 6 11) (cs 1 1) (cs 1 6 3) (S 0) (S 2) (S 3) (S 4) (S 5) (S 6) (S 8))
  | 1, 2 => (X2_perform12_g9 (cs 1 2) (cs 1 6 3) (cs 1 6 5) (cs 1 6 6) (S 0) (S 2) (S 3) (S 4))
  | 1, 3 => (X2_perform12_g11 (cs 1 6 9) (cs 1 6 10) (cs 1 6 11) (cs 1 1) ((cs 1 7 3).toNatClampNeg) (cs 1 3) (S 0) (S 3) (S 4) (S 5) (S 6) (S 7))
  | 1, 4 => (X2_perform12_g19 (cs 1 6 9) (cs 1 6 10) (cs 1 0) ((cs 1 7 4).toNatClampNeg) (cs 1 4) (S 0) (S 3) (S 4) (S 5))
  | 1, 5 => (X2_perform12_g17 (cs 1 0) (cs 1 6 2) (cs 1 6 5) (cs 1 5) (S 0) (S 3) (S 4))
  | 1, 6 => fun k => match k with | 0 => (X2_perform12_x1 (cs 1 6 0) (S 0) (S 1)) | 1 => (cs 1 6 1) | 2 => (X2_perform12_x2 (cs 1 6 2) (cs 1 6 5) (S 0) (S 3)) | 3 => (X2_perform12_x3 (cs 1 6 3) (cs 1 6 5) (S 0) (S 1) (S 3)) | 4 => (X2_perform12_x4 (cs 1 6 3) (cs 1 6 4) (cs 1 6 5) (S 0) (S 3)) | 5 => (X2_perform12_x5 (cs 1 6 5) (S 0) (S 3)) | 6 => (X2_perform12_x6 (cs 1 6 5) (cs 1 6 6) (S 0) (S 3) (S 4)) | 7 => (X2_perform12_x7 (cs 1 6 5) (cs 1 6 7) (S 0) (S 3)) | 8 => (X2_perform12_x12 (cs 1 6 8) (cs 1 0) (cs 1 6 0) (S 0) (S 1)) | 9 => (X2_perform12_x13 (cs 1 6 9) (cs 1 6 10) (cs 1 6 11) (cs 1 1) (cs 1 6 5) (S 0) (S 3) (S 4) (S 5) (S 6) (S 7)) | 10 => (X2_perform12_x14 (cs 1 6 9) (cs 1 6 10) (cs 1 6 11) (cs 1 1) (cs 1 6 5) (S 0) (S 3) (S 4) (S 5) (S 6) (S 7)) | 11 => (X2_perform12_x25 (cs 1 6 11) (cs 1 6 12) (cs 1 1) (cs 1 6 0) (cs 1 6 2) (cs 1 6 5) (S 0) (S 1) (S 3)) | 12 => (X2_perform12_x16 (cs 1 6 11) (cs 1 6 12) (cs 1 1) (S 0)) | k => cs 1 6 k
  | 1, 7 => fun k => match k with | 3 => (X2_perform12_x20 (cs 1 6 11) (cs 1 1) ((cs 1 7 3).toNatClampNeg) (S 0)) | 4 => nI (X2_perform12_n18 ((cs 1 7 4).toNatClampNeg) (S 0)) | k => cs 1 7 k
  | 2, 0 => (X2_perform12_g28 (cs 1 6 11) (cs 1 6 12) (cs 1 1) (cs 1 6 0) (cs 1 6 2) (cs 1 6 5) (cs 2 0) (S 0) (S 1) (S 3))
  | 2, 1 => (X2_perform12_g30 (cs 1 6 11) (cs 1 6 12) (cs 1 1) (cs 1 6 0) (cs 1 6 2) (cs 1 6 5) (cs 2 1) (S 0) (S 1) (S 3))
  | 2, 2 => (X2_perform12_g32 (cs 1 6 11) (cs 1 6 12) (cs 1 1) (cs 1 6 0) (cs 1 6 2) (cs 1 6 5) (cs 2 2) (S 0) (S 1) (S 3))
  | 2, 3 => (X2_perform12_g34 (cs 1 6 11) (cs 1 6 12) (cs 1 1) (cs 1 6 0) (cs 1 6 2) (cs 1 6 5) (cs 2 3) (S 0) (S 1) (S 3))
  | 2, 4 => (X2_perform12_g36 (cs 1 6 11) (cs 1 6 12) (cs 1 1) (cs 1 6 0) (cs 1 6 2) (cs 1 6 5) (cs 2 4) (S 0) (S 1) (S 3))
  | 2, 6 => fun k => match k with | 0 => (X2_perform12_x37 (cs 1 6 11) (cs 1 6 12) (cs 1 1) (cs 1 6 0) (cs 1 6 2) (cs 1 6 5) (cs 2 6 0) (S 0) (S 1) (S 3)) | 1 => (X2_perform12_x38 (cs 1 6 11) (cs 1 6 12) (cs 1 1) (cs 1 6 0) (cs 1 6 2) (cs 1 6 5) (cs 2 6 1) (S 0) (S 1) (S 3)) | 2 => (X2_perform12_x39 (cs 1 6 11) (cs 1 6 12) (cs 1 1) (cs 1 6 0) (cs 1 6 2) (cs 1 6 5) (cs 2 6 2) (S 0) (S 1) (S 3)) | 3 => (X2_perform12_x40 (cs 1 6 11) (cs 1 6 12) (cs 1 1) (cs 1 6 0) (cs 1 6 2) (cs 1 6 5) (cs 2 6 3) (S 0) (S 1) (S 3)) | 4 => (X2_perform12_x41 (cs 1 6 11) (cs 1 6 12) (cs 1 1) (cs 1 6 0) (cs 1 6 2) (cs 1 6 5) (cs 2 6 4) (S 0) (S 1) (S 3)) | 5 => (X2_perform12_x42 (cs 1 6 11) (cs 1 6 12) (cs 1 1) (cs 1 6 0) (cs 1 6 2) (cs 1 6 5) (cs 2 6 5) (S 0) (S 1) (S 3)) | 6 => (X2_perform12_x43 (cs 1 6 11) (cs 1 6 12) (cs 1 1) (cs 1 6 0) (cs 1 6 2) (cs 1 6 5) (cs 2 6 6) (S 0) (S 1) (S 3)) | 7 => (X2_perform12_x44 (cs 1 6 11) (cs 1 6 12) (cs 1 1) (cs 1 6 0) (cs 1 6 2) (cs 1 6 5) (cs 2 6 7) (S 0) (S 1) (S 3)) | 8 => (X2_perform12_x45 (cs 1 6 11) (cs 1 6 12) (cs 1 1) (cs 1 6 0) (cs 1 6 2) (cs 1 6 5) (cs 2 6 8) (cs 2 0) (S 0) (S 1) (S 3)) | 9 => (X2_perform12_x46 (cs 1 6 11) (cs 1 6 12) (cs 1 1) (cs 1 6 0) (cs 1 6 2) (cs 1 6 5) (cs 2 6 9) (S 0) (S 1) (S 3)) | 10 => (X2_perform12_x47 (cs 1 6 11) (cs 1 6 12) (cs 1 1) (cs 1 6 0) (cs 1 6 2) (cs 1 6 5) (cs 2 6 10) (S 0) (S 1) (S 3)) | 11 => (X2_perform12_x48 (cs 1 6 11) (cs 1 6 12) (cs 1 1) (cs 1 6 0) (cs 1 6 2) (cs 1 6 5) (cs 2 6 11) (S 0) (S 1) (S 3)) | 12 => (X2_perform12_x49 (cs 1 6 11) (cs 1 6 12) (cs 1 1) (cs 1 6 0) (cs 1 6 2) (cs 1 6 5) (cs 2 6 12) (S 0) (S 1) (S 3)) | k => cs 2 6 k
  | 2, 7 => fun k => match k with | 0 => (X2_perform12_x27 (cs 1 6 11) (cs 1 6 12) (cs 1 1) (cs 1 6 0) (cs 1 6 2) (cs 1 6 5) (cs 2 7 0) (S 0) (S 1) (S 3)) | 1 => (X2_perform12_x29 (cs 1 6 11) (cs 1 6 12) (cs 1 1) (cs 1 6 0) (cs 1 6 2) (cs 1 6 5) (cs 2 7 1) (S 0) (S 1) (S 3)) | 2 => (X2_perform12_x31 (cs 1 6 11) (cs 1 6 12) (cs 1 1) (cs 1 6 0) (cs 1 6 2) (cs 1 6 5) (cs 2 7 2) (S 0) (S 1) (S 3)) | 3 => (X2_perform12_x33 (cs 1 6 11) (cs 1 6 12) (cs 1 1) (cs 1 6 0) (cs 1 6 2) (cs 1 6 5) (cs 2 7 3) (S 0) (S 1) (S 3)) | 4 => (X2_perform12_x35 (cs 1 6 11) (cs 1 6 12) (cs 1 1) (cs 1 6 0) (cs 1 6 2) (cs 1 6 5) (cs 2 7 4) (S 0) (S 1) (S 3)) | k => cs 2 7 k
  | j, c => cs j c
def X2_perform12_R (cm : Nat → Int32) (cs : Nat → Nat → Nat → Int32) (S : Nat → Int32) : Int32 := (X2_perform12_x0 (cs 1 6 11) (cs 1 0) (cs 1 1) (cs 1 2) (cs 1 6 0) (S 0) (S 1) (S 3) (S 4))
theorem u_X2_perform12 {l : Launch} (hfl : l.stackTraces = false) {D : va_G} {cy : Nat → ClassId} {f : Hf} {sz : Nat} {A : Nat → Nat} {b : Nat} {q : Nat → Option Nat} {cm : Nat → Int32} {cs : Nat → Nat → Nat → Int32} {S : Nat → Int32} {st : Nat} (hM : MW A b cy q cm cs f) (hst : f st = some (scell S)) (hAj : ∀ i j : Nat, i ≠ j → A i ≠ A j) (hQ : HQ A b q) (l0 : cm 2 = 2) (l1 : cm 4 = 1) (l2 : cs 1 7 0 = 1) (l3 : cs 1 7 1 = 11) (l4 : cs 1 7 2 = 11) (l5 : cs 1 7 3 = nI ((cs 1 7 3).toNatClampNeg)) (l6 : cs 1 7 4 = nI ((cs 1 7 4).toNatClampNeg)) (hrp : 1 ≤ ((cs 1 7 3).toNatClampNeg)) (hrp2 : ((cs 1 7 3).toNatClampNeg) < 513) (hrf : ((cs 1 7 4).toNatClampNeg) < 11) : hMet l yX2_perform cX2_perform 5 (some .int) { frames := 4, cells := 0, slots := 0, locals := 92 } D (hTy cy) f sz [.ref (A (b + 0)), .ref st] (hQi (fun r u => r = X2_perform12_R cm cs S ∧ MW A b cy q (X2_perform12_M cm cs S) (X2_perform12_S cm cs S) u ∧ hFrL f u (MA A b)) D f sz) hNo := by
  obtain ⟨hq0, hq1, hq2, hq3⟩ := hQ
  refine h_postI (c_X2_perform12 hfl (rp := ((cs 1 7 3).toNatClampNeg)) (rf := ((cs 1 7 4).toNatClampNeg)) (by have h9 : f (A (b + 0)) = some (.inr (4, [.ref (A (b + 1)), .int (cm 0), .int (cm 1), .int (cm 2), .int (cm 3), .int (cm 4)])) := hM 0 (by omega); rw [l0, l1] at h9; exact h9) (show f (A (b + 1)) = some (.inl (cy 3, 4, .inr (.inr (.inr (.inr q))))) from hM 1 (by omega)) (show f (A (b + 15)) = some (.inr (2, [.ref (A (b + 16)), .ref (A (b + 18)), .ref (A (b + 20)), .ref (A (b + 22)), .ref (A (b + 24)), .ref (A (b + 26)), .int (cs 1 6 8), .int (cs 1 6 9), .int (cs 1 6 10), .int (cs 1 6 11), .int (cs 1 6 12)])) from hM 15 (by omega)) (by have h9 : f (A (b + 16)) = some (.inr (8, [.int 8, .ref (A (b + 17)), .int (cs 1 7 0)])) := hM 16 (by omega); rw [l2] at h9; exact h9) (show f (A (b + 17)) = some (.inl (cy 0, 8, .inl (cs 1 0))) from hM 17 (by omega)) (by have h9 : f (A (b + 18)) = some (.inr (8, [.int 6, .ref (A (b + 19)), .int (cs 1 7 1)])) := hM 18 (by omega); rw [l3] at h9; exact h9) (show f (A (b + 19)) = some (.inl (cy 0, 66, .inl (cs 1 1))) from hM 19 (by omega)) (by have h9 : f (A (b + 20)) = some (.inr (8, [.int 7, .ref (A (b + 21)), .int (cs 1 7 2)])) := hM 20 (by omega); rw [l4] at h9; exact h9) (show f (A (b + 21)) = some (.inl (cy 0, 77, .inl (cs 1 2))) from hM 21 (by omega)) (by have h9 : f (A (b + 22)) = some (.inr (8, [.int 8, .ref (A (b + 23)), .int (cs 1 7 3)])) := hM 22 (by omega); rw [l5] at h9; exact h9) (show f (A (b + 23)) = some (.inl (cy 0, 4104, .inl (cs 1 3))) from hM 23 (by omega)) (by have h9 : f (A (b + 24)) = some (.inr (8, [.int 3, .ref (A (b + 25)), .int (cs 1 7 4)])) := hM 24 (by omega); rw [l6] at h9; exact h9) (show f (A (b + 25)) = some (.inl (cy 0, 33, .inl (cs 1 4))) from hM 25 (by omega)) (show f (A (b + 26)) = some (.inr (5, [.ref (A (b + 27)), .int (cs 1 6 0), .int (cs 1 6 1), .int (cs 1 6 2), .int (cs 1 6 3), .int (cs 1 6 4), .int (cs 1 6 5), .int (cs 1 6 6), .int (cs 1 6 7)])) from hM 26 (by omega)) (show f (A (b + 27)) = some (.inl (cy 0, 20, .inl (cs 1 5))) from hM 27 (by omega)) (show f (A (b + 28)) = some (.inr (2, [.ref (A (b + 29)), .ref (A (b + 31)), .ref (A (b + 33)), .ref (A (b + 35)), .ref (A (b + 37)), .ref (A (b + 39)), .int (cs 2 6 8), .int (cs 2 6 9), .int (cs 2 6 10), .int (cs 2 6 11), .int (cs 2 6 12)])) from hM 28 (by omega)) (show f (A (b + 29)) = some (.inr (8, [.int 8, .ref (A (b + 30)), .int (cs 2 7 0)])) from hM 29 (by omega)) (show f (A (b + 30)) = some (.inl (cy 0, 8, .inl (cs 2 0))) from hM 30 (by omega)) (show f (A (b + 31)) = some (.inr (8, [.int 6, .ref (A (b + 32)), .int (cs 2 7 1)])) from hM 31 (by omega)) (show f (A (b + 32)) = some (.inl (cy 0, 66, .inl (cs 2 1))) from hM 32 (by omega)) (show f (A (b + 33)) = some (.inr (8, [.int 7, .ref (A (b + 34)), .int (cs 2 7 2)])) from hM 33 (by omega)) (show f (A (b + 34)) = some (.inl (cy 0, 77, .inl (cs 2 2))) from hM 34 (by omega)) (show f (A (b + 35)) = some (.inr (8, [.int 8, .ref (A (b + 36)), .int (cs 2 7 3)])) from hM 35 (by omega)) (show f (A (b + 36)) = some (.inl (cy 0, 4104, .inl (cs 2 3))) from hM 36 (by omega)) (show f (A (b + 37)) = some (.inr (8, [.int 3, .ref (A (b + 38)), .int (cs 2 7 4)])) from hM 37 (by omega)) (show f (A (b + 38)) = some (.inl (cy 0, 33, .inl (cs 2 4))) from hM 38 (by omega)) (show f (A (b + 39)) = some (.inr (5, [.ref (A (b + 40)), .int (cs 2 6 0), .int (cs 2 6 1), .int (cs 2 6 2), .int (cs 2 6 3), .int (cs 2 6 4), .int (cs 2 6 5), .int (cs 2 6 6), .int (cs 2 6 7)])) from hM 39 (by omega)) (show f (A (b + 40)) = some (.inl (cy 0, 20, .inl (cs 2 5))) from hM 40 (by omega)) hst hAj hq0 hq1 hq2 hq3 hrp hrp2 hrf) (fun r u h => ?_)
  obtain ⟨hr, k26, k17, k21, k19, k23, k15, k27, k24, k25, k22, k0, k29, k30, k31, k32, k33, k34, k35, k36, k37, k38, k39, k28, fr⟩ := h
  refine ⟨hr, MW_new (T := [26, 17, 21, 19, 23, 15, 27, 24, 25, 22, 0, 29, 30, 31, 32, 33, 34, 35, 36, 37, 38, 39, 28]) hAj hM fr (fun k hk => ?_) (fun k hk hT => ?_), hFrL_mono fr (fun x hx => ?_)⟩
  · simp only [List.mem_cons, List.not_mem_nil, or_false] at hk
    rcases hk with rfl | rfl | rfl | rfl | rfl | rfl | rfl | rfl | rfl | rfl | rfl | rfl | rfl | rfl | rfl | rfl | rfl | rfl | rfl | rfl | rfl | rfl | rfl
    · exact k26
    · exact k17
    · exact k21
    · exact k19
    · exact k23
    · exact k15
    · exact k27
    · exact k24
    · exact k25
    · exact k22
    · exact k0
    · exact k29
    · exact k30
    · exact k31
    · exact k32
    · exact k33
    · exact k34
    · exact k35
    · exact k36
    · exact k37
    · exact k38
    · exact k39
    · exact k28
  · have h9 : k = 1 ∨ k = 2 ∨ k = 3 ∨ k = 4 ∨ k = 5 ∨ k = 6 ∨ k = 7 ∨ k = 8 ∨ k = 9 ∨ k = 10 ∨ k = 11 ∨ k = 12 ∨ k = 13 ∨ k = 14 ∨ k = 16 ∨ k = 18 ∨ k = 20 ∨ k = 40 ∨ k = 41 ∨ k = 42 ∨ k = 43 ∨ k = 44 ∨ k = 45 ∨ k = 46 ∨ k = 47 ∨ k = 48 ∨ k = 49 ∨ k = 50 ∨ k = 51 ∨ k = 52 ∨ k = 53 := by
      simp only [List.mem_cons, List.not_mem_nil, or_false, not_or] at hT
      omega
    rcases h9 with rfl | rfl | rfl | rfl | rfl | rfl | rfl | rfl | rfl | rfl | rfl | rfl | rfl | rfl | rfl | rfl | rfl | rfl | rfl | rfl | rfl | rfl | rfl | rfl | rfl | rfl | rfl | rfl | rfl | rfl | rfl
    all_goals rfl
  · simp only [List.mem_cons, List.not_mem_nil, or_false] at hx
    rcases hx with rfl | rfl | rfl | rfl | rfl | rfl | rfl | rfl | rfl | rfl | rfl | rfl | rfl | rfl | rfl | rfl | rfl | rfl | rfl | rfl | rfl | rfl | rfl
    · exact MA_in (k := 26) (by omega)
    · exact MA_in (k := 17) (by omega)
    · exact MA_in (k := 21) (by omega)
    · exact MA_in (k := 19) (by omega)
    · exact MA_in (k := 23) (by omega)
    · exact MA_in (k := 15) (by omega)
    · exact MA_in (k := 27) (by omega)
    · exact MA_in (k := 24) (by omega)
    · exact MA_in (k := 25) (by omega)
    · exact MA_in (k := 22) (by omega)
    · exact MA_in (k := 0) (by omega)
    · exact MA_in (k := 29) (by omega)
    · exact MA_in (k := 30) (by omega)
    · exact MA_in (k := 31) (by omega)
    · exact MA_in (k := 32) (by omega)
    · exact MA_in (k := 33) (by omega)
    · exact MA_in (k := 34) (by omega)
    · exact MA_in (k := 35) (by omega)
    · exact MA_in (k := 36) (by omega)
    · exact MA_in (k := 37) (by omega)
    · exact MA_in (k := 38) (by omega)
    · exact MA_in (k := 39) (by omega)
    · exact MA_in (k := 28) (by omega)
