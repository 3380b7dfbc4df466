def X2_perform22_M (cm : Nat → Int32) (cs : Nat → Nat → Nat → Int32) (S : Nat → Int32) : Nat → Int32
  | 0 => (cm 0)
  | 1 => (X2_perform22_x51 (cm 1) (cs 2 6 11) (cs 2 6 12) (cs 2 0) (cs 2 1) (cs 2 6 0) (cs 2 6 2) (cs 2 6 5) (cs 0 0) (cs 1 0) (S 0) (S 1) (S 3) (S 4))
  | 2 => 2
  | 3 => (cm 3)
  | 4 => (X2_perform22_x52 (cs 2 6 11) (cs 2 6 12) (cs 2 0) (cs 2 1) (cs 2 6 0) (cs 2 6 2) (cs 2 6 5) (cs 0 0) (cs 1 0) (S 0) (S 1) (S 3) (S 4))
  | k => cm k
def X2_perform22_S (cm : Nat → Int32) (cs : Nat → Nat → Nat → Int32) (S : Nat → Int32) : Nat → Nat → Nat → Int32
  | 2, 0 => (X2_perform22_g49 (cs 2 6 11) (cs 2 6 12) (cs 2 0) (cs 2 1) (cs 2 6 0) (cs 2 6 2) (cs 2 6 5) (S 0) (S 1) (S 3) (S 4))
  | 2, 1 => (X2_perform22_g10 (cs 2 6 9) (cs 2 6 10) (cs 2 6 11) (cs 2 1) (cs 2 6 3) (S 0) (S 2) (S 3) (S 4) (S 5) (S 6) (S 8))
  | 2, 2 => (X2_perform22_g9 (cs 2 2) (cs 2 6 3) (cs 2 6 5) (cs 2 6 6) (S 0) (S 2) (S 3) (S 4))
  | 2, 3 => (X2_perform22_g11 (cs 2 6 9) (cs 2 6 10) (cs 2 6 11) (cs 2 1) ((cs 2 7 3).toNatClampNeg) (cs 2 3) (S 0) (S 3) (S 4) (S 5) (S 6) (S 7))
  | 2, 4 => (X2_perform22_g19 (cs 2 6 9) (cs 2 6 10) (cs 2 0) ((cs 2 7 4).toNatClampNeg) (cs 2 4) (S 0) (S 3) (S 4) (S 5))
  | 2, 5 => (X2_perform22_g17 (cs 2 0) (cs 2 6 2) (cs 2 6 5) (cs 2 5) (S 0) (S 3) (S 4))
  | 2, 6 => fun k => match k with | 0 => (X2_perform22_x1 (cs 2 6 0) (S 0) (S 1)) | 1 => (cs 2 6 1) | 2 => (X2_perform22_x2 (cs 2 6 2) (cs 2 6 5) (S 0) (S 3)) | 3 => (X2_perform22_x3 (cs 2 6 3) (cs 2 6 5) (S 0) (S 1) (S 3)) | 4 => (X2_perform22_x4 (cs 2 6 3) (cs 2 6 4) (cs 2 6 5) (S 0) (S 3)) | 5 => (X2_perform22_x5 (cs 2 6 5) (S 0) (S 3)) | 6 => (X2_perform22_x6 (cs 2 6 5) (cs 2 6 6) (S 0) (S 3) (S 4)) | 7 => (X2_perform22_x7 (cs 2 6 5) (cs 2 6 7) (S 0) (S 3)) | 8 => (X2_perform22_x12 (cs 2 6 8) (cs 2 0) (cs 2 6 0) (S 0) (S 1)) | 9 => (X2_perform22_x13 (cs 2 6 9) (cs 2 6 10) (cs 2 6 11) (cs 2 1) (cs 2 6 5) (S 0) (S 3) (S 4) (S 5) (S 6) (S 7)) | 10 => (X2_perform22_x14 (cs 2 6 9) (cs 2 6 10) (cs 2 6 11) (cs 2 1) (cs 2 6 5) (S 0) (S 3) (S 4) (S 5) (S 6) (S 7)) | 11 => (X2_perform22_x50 (cs 2 6 11) (cs 2 6 12) (cs 2 1) (cs 2 6 0) (cs 2 6 2) (cs 2 6 5) (S 0) (S 1) (S 3)) | 12 => (X2_perform22_x16 (cs 2 6 11) (cs 2 6 12) (cs 2 1) (S 0)) | k => cs 2 6 k
  | 2, 7 => fun k => match k with | 3 => (X2_perform22_x20 (cs 2 6 11) (cs 2 1) ((cs 2 7 3).toNatClampNeg) (S 0)) | 4 => nI (X2_perform22_n18 ((cs 2 7 4).toNatClampNeg) (S 0)) | k => cs 2 7 k
  | 3, 0 => (X2_perform22_g54 (cs 2 6 11) (cs 2 6 12) (cs 2 0) (cs 2 1) (cs 2 6 0) (cs 2 6 2) (cs 2 6 5) (cs 0 0) (cs 1 0) (cs 3 0) (S 0) (S 1) (S 3) (S 4))
  | 3, 1 => (X2_perform22_g56 (cs 2 6 11) (cs 2 6 12) (cs 2 0) (cs 2 1) (cs 2 6 0) (cs 2 6 2) (cs 2 6 5) (cs 0 0) (cs 1 0) (cs 3 1) (S 0) (S 1) (S 3) (S 4))
  | 3, 2 => (X2_perform22_g58 (cs 2 6 11) (cs 2 6 12) (cs 2 0) (cs 2 1) (cs 2 6 0) (cs 2 6 2) (cs 2 6 5) (cs 0 0) (cs 1 0) (cs 3 2) (S 0) (S 1) (S 3) (S 4))
  | 3, 3 => (X2_perform22_g60 (cs 2 6 11) (cs 2 6 12) (cs 2 0) (cs 2 1) (cs 2 6 0) (cs 2 6 2) (cs 2 6 5) (cs 0 0) (cs 1 0) (cs 3 3) (S 0) (S 1) (S 3) (S 4))
  | 3, 4 => (X2_perform22_g62 (cs 2 6 11) (cs 2 6 12) (cs 2 0) (cs 2 1) (cs 2 6 0) (cs 2 6 2) (cs 2 6 5) (cs 0 0) (cs 1 0) (cs 3 4) (S 0) (S 1) (S 3) (S 4))
  | 3, 6 => fun k => match k with | 0 => (X2_perform22_x63 (cs 2 6 11) (cs 2 6 12) (cs 2 0) (cs 2 1) (cs 2 6 0) (cs 2 6 2) (cs 2 6 5) (cs 0 0) (cs 1 0) (cs 3 6 0) (S 0) (S 1) (S 3) (S 4)) | 1 => (X2_perform22_x64 (cs 2 6 11) (cs 2 6 12) (cs 2 0) (cs 2 1) (cs 2 6 0) (cs 2 6 2) (cs 2 6 5) (cs 0 0) (cs 1 0) (cs 3 6 1) (S 0) (S 1) (S 3) (S 4)) | 2 => (X2_perform22_x65 (cs 2 6 11) (cs 2 6 12) (cs 2 0) (cs 2 1) (cs 2 6 0) (cs 2 6 2) (cs 2 6 5) (cs 0 0) (cs 1 0) (cs 3 6 2) (S 0) (S 1) (S 3) (S 4)) | 3 => (X2_perform22_x66 (cs 2 6 11) (cs 2 6 12) (cs 2 0) (cs 2 1) (cs 2 6 0) (cs 2 6 2) (cs 2 6 5) (cs 0 0) (cs 1 0) (cs 3 6 3) (S 0) (S 1) (S 3) (S 4)) | 4 => (X2_perform22_x67 (cs 2 6 11) (cs 2 6 12) (cs 2 0) (cs 2 1) (cs 2 6 0) (cs 2 6 2) (cs 2 6 5) (cs 0 0) (cs 1 0) (cs 3 6 4) (S 0) (S 1) (S 3) (S 4)) | 5 => (X2_perform22_x68 (cs 2 6 11) (cs 2 6 12) (cs 2 0) (cs 2 1) (cs 2 6 0) (cs 2 6 2) (cs 2 6 5) (cs 0 0) (cs 1 0) (cs 3 6 5) (S 0) (S 1) (S 3) (S 4)) | 6 => (X2_perform22_x69 (cs 2 6 11) (cs 2 6 12) (cs 2 0) (cs 2 1) (cs 2 6 0) (cs 2 6 2) (cs 2 6 5) (cs 0 0) (cs 1 0) (cs 3 6 6) (S 0) (S 1) (S 3) (S 4)) | 7 => (X2_perform22_x70 (cs 2 6 11) (cs 2 6 12) (cs 2 0) (cs 2 1) (cs 2 6 0) (cs 2 6 2) (cs 2 6 5) (cs 0 0) (cs 1 0) (cs 3 6 7) (S 0) (S 1) (S 3) (S 4)) | 8 => (X2_perform22_x71 (cs 2 6 11) (cs 2 6 12) (cs 2 0) (cs 2 1) (cs 2 6 0) (cs 2 6 2) (cs 2 6 5) (cs 0 0) (cs 1 0) (cs 3 6 8) (cs 3 0) (S 0) (S 1) (S 3) (S 4)) | 9 => (X2_perform22_x72 (cs 2 6 11) (cs 2 6 12) (cs 2 0) (cs 2 1) (cs 2 6 0) (cs 2 6 2) (cs 2 6 5) (cs 0 0) (cs 1 0) (cs 3 6 9) (S 0) (S 1) (S 3) (S 4)) | 10 => (X2_perform22_x73 (cs 2 6 11) (cs 2 6 12) (cs 2 0) (cs 2 1) (cs 2 6 0) (cs 2 6 2) (cs 2 6 5) (cs 0 0) (cs 1 0) (cs 3 6 10) (S 0) (S 1) (S 3) (S 4)) | 11 => (X2_perform22_x74 (cs 2 6 11) (cs 2 6 12) (cs 2 0) (cs 2 1) (cs 2 6 0) (cs 2 6 2) (cs 2 6 5) (cs 0 0) (cs 1 0) (cs 3 6 11) (S 0) (S 1) (S 3) (S 4)) | 12 => (X2_perform22_x75 (cs 2 6 11) (cs 2 6 12) (cs 2 0) (cs 2 1) (cs 2 6 0) (cs 2 6 2) (cs 2 6 5) (cs 0 0) (cs 1 0) (cs 3 6 12) (S 0) (S 1) (S 3) (S 4)) | k => cs 3 6 k
  | 3, 7 => fun k => match k with | 0 => (X2_perform22_x53 (cs 2 6 11) (cs 2 6 12) (cs 2 0) (cs 2 1) (cs 2 6 0) (cs 2 6 2) (cs 2 6 5) (cs 0 0) (cs 1 0) (cs 3 7 0) (S 0) (S 1) (S 3) (S 4)) | 1 => (X2_perform22_x55 (cs 2 6 11) (cs 2 6 12) (cs 2 0) (cs 2 1) (cs 2 6 0) (cs 2 6 2) (cs 2 6 5) (cs 0 0) (cs 1 0) (cs 3 7 1) (S 0) (S 1) (S 3) (S 4)) | 2 => (X2_perform22_x57 (cs 2 6 11) (cs 2 6 12) (cs 2 0) (cs 2 1) (cs 2 6 0) (cs 2 6 2) (cs 2 6 5) (cs 0 0) (cs 1 0) (cs 3 7 2) (S 0) (S 1) (S 3) (S 4)) | 3 => (X2_perform22_x59 (cs 2 6 11) (cs 2 6 12) (cs 2 0) (cs 2 1) (cs 2 6 0) (cs 2 6 2) (cs 2 6 5) (cs 0 0) (cs 1 0) (cs 3 7 3) (S 0) (S 1) (S 3) (S 4)) | 4 => (X2_perform22_x61 (cs 2 6 11) (cs 2 6 12) (cs 2 0) (cs 2 1) (cs 2 6 0) (cs 2 6 2) (cs 2 6 5) (cs 0 0) (cs 1 0) (cs 3 7 4) (S 0) (S 1) (S 3) (S 4)) | k => cs 3 7 k
  | j, c => cs j c
def X2_perform22_R (cm : Nat → Int32) (cs : Nat → Nat → Nat → Int32) (S : Nat → Int32) : Int32 := (X2_perform22_x0 (cs 2 6 11) (cs 2 0) (cs 2 1) (cs 2 2) (cs 2 6 0) (S 0) (S 1) (S 3) (S 4))
theorem u_X2_perform22 {l : Launch} (hfl : l.stackTraces = false) {D : va_G} {cy : Nat → ClassId} {f : Hf} {sz : Nat} {A : Nat → Nat} {b : Nat} {q : Nat → Option Nat} {cm : Nat → Int32} {cs : Nat → Nat → Nat → Int32} {S : Nat → Int32} {st : Nat} (hM : MW A b cy q cm cs f) (hst : f st = some (scell S)) (hAj : ∀ i j : Nat, i ≠ j → A i ≠ A j) (hQ : HQ A b q) (l0 : cm 2 = 2) (l1 : cm 4 = 2) (l2 : cs 2 7 0 = 1) (l3 : cs 2 7 1 = 11) (l4 : cs 2 7 2 = 11) (l5 : cs 2 7 3 = nI ((cs 2 7 3).toNatClampNeg)) (l6 : cs 2 7 4 = nI ((cs 2 7 4).toNatClampNeg)) (l7 : cs 0 7 0 = 1) (l8 : cs 1 7 0 = 1) (hrp : 1 ≤ ((cs 2 7 3).toNatClampNeg)) (hrp2 : ((cs 2 7 3).toNatClampNeg) < 513) (hrf : ((cs 2 7 4).toNatClampNeg) < 11) : hMet l yX2_perform cX2_perform 5 (some .int) { frames := 4, cells := 0, slots := 0, locals := 92 } D (hTy cy) f sz [.ref (A (b + 0)), .ref st] (hQi (fun r u => r = X2_perform22_R cm cs S ∧ MW A b cy q (X2_perform22_M cm cs S) (X2_perform22_S cm cs S) u ∧ hFrL f u (MA A b)) D f sz) hNo := by
  obtain ⟨hq0, hq1, hq2, hq3⟩ := hQ
  refine h_postI (c_X2_perform22 hfl (rp := ((cs 2 7 3).toNatClampNeg)) (rf := ((cs 2 7 4).toNatClampNeg)) (by have h9 : f (A (b + 0)) = some (.inr (4, [.ref (A (b + 1)), .int (cm 0), .int (cm 1), .int (cm 2), .int (cm 3), .int (cm 4)])) := hM 0 (by omega); rw [l0, l1] at h9; exact h9) (show f (A (b + 1)) = some (.inl (cy 3, 4, .inr (.inr (.inr (.inr q))))) from hM 1 (by omega)) (show f (A (b + 28)) = some (.inr (2, [.ref (A (b + 29)), .ref (A (b + 31)), .ref (A (b + 33)), .ref (A (b + 35)), .ref (A (b + 37)), .ref (A (b + 39)), .int (cs 2 6 8), .int (cs 2 6 9), .int (cs 2 6 10), .int (cs 2 6 11), .int (cs 2 6 12)])) from hM 28 (by omega)) (by have h9 : f (A (b + 29)) = some (.inr (8, [.int 8, .ref (A (b + 30)), .int (cs 2 7 0)])) := hM 29 (by omega); rw [l2] at h9; exact h9) (show f (A (b + 30)) = some (.inl (cy 0, 8, .inl (cs 2 0))) from hM 30 (by omega)) (by have h9 : f (A (b + 31)) = some (.inr (8, [.int 6, .ref (A (b + 32)), .int (cs 2 7 1)])) := hM 31 (by omega); rw [l3] at h9; exact h9) (show f (A (b + 32)) = some (.inl (cy 0, 66, .inl (cs 2 1))) from hM 32 (by omega)) (by have h9 : f (A (b + 33)) = some (.inr (8, [.int 7, .ref (A (b + 34)), .int (cs 2 7 2)])) := hM 33 (by omega); rw [l4] at h9; exact h9) (show f (A (b + 34)) = some (.inl (cy 0, 77, .inl (cs 2 2))) from hM 34 (by omega)) (by have h9 : f (A (b + 35)) = some (.inr (8, [.int 8, .ref (A (b + 36)), .int (cs 2 7 3)])) := hM 35 (by omega); rw [l5] at h9; exact h9) (show f (A (b + 36)) = some (.inl (cy 0, 4104, .inl (cs 2 3))) from hM 36 (by omega)) (by have h9 : f (A (b + 37)) = some (.inr (8, [.int 3, .ref (A (b + 38)), .int (cs 2 7 4)])) := hM 37 (by omega); rw [l6] at h9; exact h9) (show f (A (b + 38)) = some (.inl (cy 0, 33, .inl (cs 2 4))) from hM 38 (by omega)) (show f (A (b + 39)) = some (.inr (5, [.ref (A (b + 40)), .int (cs 2 6 0), .int (cs 2 6 1), .int (cs 2 6 2), .int (cs 2 6 3), .int (cs 2 6 4), .int (cs 2 6 5), .int (cs 2 6 6), .int (cs 2 6 7)])) from hM 39 (by omega)) (show f (A (b + 40)) = some (.inl (cy 0, 20, .inl (cs 2 5))) from hM 40 (by omega)) (show f (A (b + 2)) = some (.inr (2, [.ref (A (b + 3)), .ref (A (b + 5)), .ref (A (b + 7)), .ref (A (b + 9)), .ref (A (b + 11)), .ref (A (b + 13)), .int (cs 0 6 8), .int (cs 0 6 9), .int (cs 0 6 10), .int (cs 0 6 11), .int (cs 0 6 12)])) from hM 2 (by omega)) (by have h9 : f (A (b + 3)) = some (.inr (8, [.int 8, .ref (A (b + 4)), .int (cs 0 7 0)])) := hM 3 (by omega); rw [l7] at h9; exact h9) (show f (A (b + 4)) = some (.inl (cy 0, 8, .inl (cs 0 0))) from hM 4 (by omega)) (show f (A (b + 15)) = some (.inr (2, [.ref (A (b + 16)), .ref (A (b + 18)), .ref (A (b + 20)), .ref (A (b + 22)), .ref (A (b + 24)), .ref (A (b + 26)), .int (cs 1 6 8), .int (cs 1 6 9), .int (cs 1 6 10), .int (cs 1 6 11), .int (cs 1 6 12)])) from hM 15 (by omega)) (by have h9 : f (A (b + 16)) = some (.inr (8, [.int 8, .ref (A (b + 17)), .int (cs 1 7 0)])) := hM 16 (by omega); rw [l8] at h9; exact h9) (show f (A (b + 17)) = some (.inl (cy 0, 8, .inl (cs 1 0))) from hM 17 (by omega)) (show f (A (b + 41)) = some (.inr (2, [.ref (A (b + 42)), .ref (A (b + 44)), .ref (A (b + 46)), .ref (A (b + 48)), .ref (A (b + 50)), .ref (A (b + 52)), .int (cs 3 6 8), .int (cs 3 6 9), .int (cs 3 6 10), .int (cs 3 6 11), .int (cs 3 6 12)])) from hM 41 (by omega)) (show f (A (b + 42)) = some (.inr (8, [.int 8, .ref (A (b + 43)), .int (cs 3 7 0)])) from hM 42 (by omega)) (show f (A (b + 43)) = some (.inl (cy 0, 8, .inl (cs 3 0))) from hM 43 (by omega)) (show f (A (b + 44)) = some (.inr (8, [.int 6, .ref (A (b + 45)), .int (cs 3 7 1)])) from hM 44 (by omega)) (show f (A (b + 45)) = some (.inl (cy 0, 66, .inl (cs 3 1))) from hM 45 (by omega)) (show f (A (b + 46)) = some (.inr (8, [.int 7, .ref (A (b + 47)), .int (cs 3 7 2)])) from hM 46 (by omega)) (show f (A (b + 47)) = some (.inl (cy 0, 77, .inl (cs 3 2))) from hM 47 (by omega)) (show f (A (b + 48)) = some (.inr (8, [.int 8, .ref (A (b + 49)), .int (cs 3 7 3)])) from hM 48 (by omega)) (show f (A (b + 49)) = some (.inl (cy 0, 4104, .inl (cs 3 3))) from hM 49 (by omega)) (show f (A (b + 50)) = some (.inr (8, [.int 3, .ref (A (b + 51)), .int (cs 3 7 4)])) from hM 50 (by omega)) (show f (A (b + 51)) = some (.inl (cy 0, 33, .inl (cs 3 4))) from hM 51 (by omega)) (show f (A (b + 52)) = some (.inr (5, [.ref (A (b + 53)), .int (cs 3 6 0), .int (cs 3 6 1), .int (cs 3 6 2), .int (cs 3 6 3), .int (cs 3 6 4), .int (cs 3 6 5), .int (cs 3 6 6), .int (cs 3 6 7)])) from hM 52 (by omega)) (show f (A (b + 53)) = some (.inl (cy 0, 20, .inl (cs 3 5))) from hM 53 (by omega)) hst hAj hq0 hq1 hq2 hq3 hrp hrp2 hrf) (fun r u h => ?_)
  obtain ⟨hr, k39, k30, k34, k32, k36, k28, k40, k37, k38, k35, k0, k42, k43, k44, k45, k46, k47, k48, k49, k50, k51, k52, k41, fr⟩ := h
  refine ⟨hr, MW_new (T := [39, 30, 34, 32, 36, 28, 40, 37, 38, 35, 0, 42, 43, 44, 45, 46, 47, 48, 49, 50, 51, 52, 41]) hAj hM fr (fun k hk => ?_) (fun k hk hT => ?_), hFrL_mono fr (fun x hx => ?_)⟩
  · simp only [List.mem_cons, List.not_mem_nil, or_false] at hk
    rcases hk with rfl | rfl | rfl | rfl | rfl | rfl | rfl | rfl | rfl | rfl | rfl | rfl | rfl | rfl | rfl | rfl | rfl | rfl | rfl | rfl | rfl | rfl | rfl
    · exact k39
    · exact k30
    · exact k34
    · exact k32
    · exact k36
    · exact k28
    · exact k40
    · exact k37
    · exact k38
    · exact k35
    · exact k0
    · exact k42
    · exact k43
    · exact k44
    · exact k45
    · exact k46
    · exact k47
    · exact k48
    · exact k49
    · exact k50
    · exact k51
    · exact k52
    · exact k41
  · have h9 : k = 1 ∨ k = 2 ∨ k = 3 ∨ k = 4 ∨ k = 5 ∨ k = 6 ∨ k = 7 ∨ k = 8 ∨ k = 9 ∨ k = 10 ∨ k = 11 ∨ k = 12 ∨ k = 13 ∨ k = 14 ∨ k = 15 ∨ k = 16 ∨ k = 17 ∨ k = 18 ∨ k = 19 ∨ k = 20 ∨ k = 21 ∨ k = 22 ∨ k = 23 ∨ k = 24 ∨ k = 25 ∨ k = 26 ∨ k = 27 ∨ k = 29 ∨ k = 31 ∨ k = 33 ∨ k = 53 := by
      simp only [List.mem_cons, List.not_mem_nil, or_false, not_or] at hT
      omega
    rcases h9 with rfl | rfl | rfl | rfl | rfl | rfl | rfl | rfl | rfl | rfl | rfl | rfl | rfl | rfl | rfl | rfl | rfl | rfl | rfl | rfl | rfl | rfl | rfl | rfl | rfl | rfl | rfl | rfl | rfl | rfl | rfl
    all_goals rfl
  · simp only [List.mem_cons, List.not_mem_nil, or_false] at hx
    rcases hx with rfl | rfl | rfl | rfl | rfl | rfl | rfl | rfl | rfl | rfl | rfl | rfl | rfl | rfl | rfl | rfl | rfl | rfl | rfl | rfl | rfl | rfl | rfl
    · exact MA_in (k := 39) (by omega)
    · exact MA_in (k := 30) (by omega)
    · exact MA_in (k := 34) (by omega)
    · exact MA_in (k := 32) (by omega)
    · exact MA_in (k := 36) (by omega)
    · exact MA_in (k := 28) (by omega)
    · exact MA_in (k := 40) (by omega)
    · exact MA_in (k := 37) (by omega)
    · exact MA_in (k := 38) (by omega)
    · exact MA_in (k := 35) (by omega)
    · exact MA_in (k := 0) (by omega)
    · exact MA_in (k := 42) (by omega)
    · exact MA_in (k := 43) (by omega)
    · exact MA_in (k := 44) (by omega)
    · exact MA_in (k := 45) (by omega)
    · exact MA_in (k := 46) (by omega)
    · exact MA_in (k := 47) (by omega)
    · exact MA_in (k := 48) (by omega)
    · exact MA_in (k := 49) (by omega)
    · exact MA_in (k := 50) (by omega)
    · exact MA_in (k := 51) (by omega)
    · exact MA_in (k := 52) (by omega)
    · exact MA_in (k := 41) (by omega)
