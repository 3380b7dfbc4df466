/-! a whole number by a whole number that isn't 0 is no NaN -/
section FPN
variable {f : FP.Core.Fmt}
def fpOk (f : FP.Core.Fmt) (d : FP.Core.Datum) : Prop := (∃ t, d = .inf t) ∨ ∃ t c q, d = .fin t c q ∧ c < 2 * f.tails ∧ q ≤ f.qmax
def fpF (f : FP.Core.Fmt) : Prop := 2 ^ f.p = 2 * f.tails ∧ f.exps = 2 * f.emax + 2 ∧ 40 ≤ f.emax ∧ 2 ≤ f.tails ∧ f.qmin ≤ f.qmax ∧ f.qmax - f.qmin = 2 * (f.emax : Int) - 1 ∧ f.qmin < 0 ∧ 31 - ((f.p : Int) - 1) < f.qmax ∧ f.qmin < f.qmax ∧ 1 ≤ f.p
theorem fpF32 : fpF FP.Core.b32 := by unfold fpF; decide
theorem fpF64 : fpF FP.Core.b64 := by unfold fpF; decide
theorem fp_settle (hF : fpF f) (s : Bool) (c : Nat) (q : Int) : fpOk f (FP.Core.settle f s c q) := by
  obtain ⟨h1, h2, h3, h4, h5, h6⟩ := hF
  unfold FP.Core.settle FP.Core.bound
  split
  · split
    · exact Or.inr ⟨s, c, q, rfl, by omega, by assumption⟩
    · exact Or.inl ⟨s, rfl⟩
  · split
    · exact Or.inr ⟨s, f.tails, q + 1, rfl, by omega, by assumption⟩
    · exact Or.inl ⟨s, rfl⟩
theorem fp_rr (hF : fpF f) (s : Bool) (A B : Nat) (e : Int) : fpOk f (FP.Core.roundRatio f s A B e) := by
  unfold FP.Core.roundRatio
  split
  · exact Or.inr ⟨s, 0, f.qmin, rfl, by have := hF.2.2.2.1; omega, hF.2.2.2.2.1⟩
  · exact fp_settle hF _ _ _
theorem fp_asm (s : Bool) {e t : Nat} (he : e < f.exps) (ht : t < f.tails) : FP.Core.assemble f s e t % (f.exps * f.tails) = e * f.tails + t ∧ FP.Core.assemble f s e t < 2 * (f.exps * f.tails) ∧ FP.Core.fieldT f (FP.Core.assemble f s e t) = t ∧ FP.Core.fieldE f (FP.Core.assemble f s e t) = e := by
  have h : e * f.tails + t < f.exps * f.tails := by
    have h9 := Nat.mul_le_mul_right f.tails (show e + 1 ≤ f.exps from he)
    rw [Nat.add_mul] at h9
    omega
  have e1 : FP.Core.assemble f s e t = (e * f.tails + t) + s.toNat * (f.exps * f.tails) := by
    unfold FP.Core.assemble
    rw [Nat.add_mul, Nat.mul_assoc]
    omega
  have h2 : s.toNat * (f.exps * f.tails) ≤ 1 * (f.exps * f.tails) := Nat.mul_le_mul_right _ (by cases s <;> decide)
  refine ⟨by rw [e1, Nat.add_mul_mod_self_right, Nat.mod_eq_of_lt h], by omega, ?_, ?_⟩
  · unfold FP.Core.fieldT FP.Core.assemble
    rw [Nat.add_comm, Nat.add_mul_mod_self_right, Nat.mod_eq_of_lt ht]
  · unfold FP.Core.fieldE FP.Core.assemble
    rw [Nat.add_comm (_ * _) t, Nat.add_mul_div_right _ _ (by omega), Nat.div_eq_of_lt ht, Nat.zero_add, Nat.add_comm, Nat.add_mul_mod_self_right, Nat.mod_eq_of_lt he]
theorem fp_exp (hF : fpF f) {q : Int} (hq : q ≤ f.qmax) : (q - f.qmin).toNat + 1 < f.exps - 1 := by
  obtain ⟨h1, h2, h3, h4, h5, h6, -⟩ := hF
  omega
theorem fp_enc (hF : fpF f) {d : FP.Core.Datum} (h : fpOk f d) : FP.Core.encode f d % (f.exps * f.tails) ≤ (f.exps - 1) * f.tails ∧ FP.Core.encode f d < 2 * (f.exps * f.tails) := by
  have hF0 := hF
  obtain ⟨h1, h2, h3, h4, h5, h6, -⟩ := hF0
  rcases h with ⟨t, rfl⟩ | ⟨t, c, q, rfl, hc, hq⟩
  · have K := fp_asm (f := f) t (e := f.exps - 1) (t := 0) (by omega) (by omega)
    exact ⟨by show FP.Core.assemble f t (f.exps - 1) 0 % _ ≤ _; rw [K.1]; omega, K.2.1⟩
  · unfold FP.Core.encode
    dsimp only
    split
    · rename_i hl
      have K := fp_asm (f := f) t (e := 0) (t := c) (by omega) hl
      have h9 := Nat.mul_le_mul_right f.tails (show 1 ≤ f.exps - 1 by omega)
      exact ⟨by rw [K.1]; omega, K.2.1⟩
    · rename_i hl
      have hE := fp_exp hF hq
      have K := fp_asm (f := f) t (e := (q - f.qmin).toNat + 1) (t := c - f.tails) (by omega) (by omega)
      have h9 := Nat.mul_le_mul_right f.tails (show (q - f.qmin).toNat + 1 + 1 ≤ f.exps - 1 by omega)
      rw [Nat.add_mul ((q - f.qmin).toNat + 1)] at h9
      exact ⟨by rw [K.1]; omega, K.2.1⟩
theorem fp_dec (hF : fpF f) {t : Bool} {c : Nat} {q : Int} (hc : c < 2 * f.tails) (hq : q ≤ f.qmax) : ∃ s c2 q2, FP.Core.decode f (FP.Core.encode f (.fin t c q)) = .fin s c2 q2 ∧ (c ≠ 0 → c2 ≠ 0) := by
  have hF0 := hF
  obtain ⟨h1, h2, h3, h4, h5, h6, -⟩ := hF0
  unfold FP.Core.encode
  dsimp only
  split
  · rename_i hl
    obtain ⟨-, -, K1, K2⟩ := fp_asm (f := f) t (e := 0) (t := c) (by omega) hl
    unfold FP.Core.decode
    rw [K1, K2, if_neg (by omega), if_pos rfl]
    exact ⟨_, _, _, rfl, fun h => h⟩
  · rename_i hl
    have hE := fp_exp hF hq
    obtain ⟨-, -, K1, K2⟩ := fp_asm (f := f) t (e := (q - f.qmin).toNat + 1) (t := c - f.tails) (by omega) (by omega)
    unfold FP.Core.decode
    rw [K1, K2, if_neg (by omega), if_neg (by omega)]
    exact ⟨_, _, _, rfl, fun h => by omega⟩
theorem fp_near (A B : Nat) (hB : 0 < B) (h : B ≤ A) : FP.Core.nearest A B ≠ 0 := by
  have h9 : 1 ≤ A / B := (Nat.one_le_div_iff hB).mpr h
  unfold FP.Core.nearest
  split
  · omega
  · split <;> omega
theorem fp_int (hF : fpF f) {i : Int} (hi : i.natAbs < 2 ^ 32) : (∃ s c q, FP.Core.decode f (FP.Core.fromInt f i) = .fin s c q ∧ (i ≠ 0 → c ≠ 0)) ∧ FP.Core.fromInt f i < 2 * (f.exps * f.tails) := by
  have hF0 := hF
  obtain ⟨h1, h2, h3, h4, h5, h6, h7, h8, h10, h11⟩ := hF0
  have K : ∃ s c q, FP.Core.roundRatio f (decide (i < 0)) i.natAbs 1 0 = .fin s c q ∧ c < 2 * f.tails ∧ q ≤ f.qmax ∧ (i ≠ 0 → c ≠ 0) := by
    unfold FP.Core.roundRatio
    split
    · rename_i h0
      exact ⟨_, _, _, rfl, by omega, by omega, fun h => absurd (Int.natAbs_eq_zero.mp h0) h⟩
    · rename_i h0
      have hL : i.natAbs.log2 < 32 := (Nat.log2_lt h0).mpr hi
      have hl1 : FP.Core.leading i.natAbs 1 ≤ (i.natAbs.log2 : Int) := by
        unfold FP.Core.leading
        have e1 : Nat.log2 1 = 0 := by decide
        dsimp only
        rw [e1]
        split <;> omega
      obtain ⟨Q, hQ⟩ : ∃ Q, Q = FP.Core.quantum f i.natAbs 1 0 := ⟨_, rfl⟩
      have hQ1 : Q = f.qmin ∨ Q = FP.Core.leading i.natAbs 1 + 0 - ((f.p : Int) - 1) := by rw [hQ]; unfold FP.Core.quantum; omega
      have hQ2 : Q + 1 ≤ f.qmax := by omega
      rw [← hQ]
      have hn : FP.Core.nearest (FP.Core.unitsNum i.natAbs 0 Q) (FP.Core.unitsDen 1 0 Q) ≠ 0 := by
        have hp : 0 < FP.Core.unitsDen 1 0 Q := by unfold FP.Core.unitsDen; have := Nat.two_pow_pos (Q - 0).toNat; omega
        refine fp_near _ _ hp ?_
        unfold FP.Core.unitsDen FP.Core.unitsNum
        by_cases hq : Q ≤ 0
        · have e1 : (Q - 0).toNat = 0 := by omega
          rw [e1]
          have e2 := Nat.two_pow_pos (0 - Q).toNat
          have e3 : 1 * 1 ≤ i.natAbs * 2 ^ (0 - Q).toNat := Nat.mul_le_mul (by omega) e2
          omega
        · have e1 : (0 - Q).toNat = 0 := by omega
          rw [e1]
          have e2 : (Q - 0).toNat ≤ i.natAbs.log2 := by omega
          have e3 := Nat.pow_le_pow_right (show 1 ≤ 2 by omega) e2
          have e4 := Nat.log2_self_le h0
          omega
      unfold FP.Core.roundAt FP.Core.settle FP.Core.bound
      split <;> (try split) <;> first | exact ⟨_, _, _, rfl, by omega, by omega, fun _ => hn⟩ | exact ⟨_, _, _, rfl, by omega, by omega, fun _ => by omega⟩ | (exfalso; omega)
  obtain ⟨s, c, q, e1, hc, hq, hne⟩ := K
  have e2 : FP.Core.fromInt f i = FP.Core.encode f (.fin s c q) := by rw [← e1]; rfl
  rw [e2]
  obtain ⟨s2, c2, q2, e3, e4⟩ := fp_dec hF (t := s) hc hq
  exact ⟨⟨s2, c2, q2, e3, fun h => e4 (hne h)⟩, (fp_enc hF (Or.inr ⟨s, c, q, rfl, hc, hq⟩)).2⟩
theorem fp_div (hF : fpF f) {x y : Int} (hx : x.natAbs < 2 ^ 32) (hy : y.natAbs < 2 ^ 32) (h0 : y ≠ 0) : FP.Core.div f (FP.Core.fromInt f x) (FP.Core.fromInt f y) % (f.exps * f.tails) ≤ (f.exps - 1) * f.tails ∧ FP.Core.div f (FP.Core.fromInt f x) (FP.Core.fromInt f y) < 2 * (f.exps * f.tails) := by
  obtain ⟨⟨s, c, q, e1, -⟩, -⟩ := fp_int hF hx
  obtain ⟨⟨t, d, r, e2, hd⟩, -⟩ := fp_int hF hy
  have e3 : FP.Core.div f (FP.Core.fromInt f x) (FP.Core.fromInt f y) = FP.Core.encode f (FP.Core.roundRatio f (s != t) c d (q - r)) := by
    unfold FP.Core.div
    rw [e1, e2]
    show FP.Core.encode f (if d = 0 then (if c = 0 then .nan else .inf (s != t)) else FP.Core.roundRatio f (s != t) c d (q - r)) = _
    rw [if_neg (hd h0)]
  rw [e3]
  exact fp_enc hF (fp_rr hF _ _ _ _)
end FPN
theorem i32_abs (x : Int32) : x.toInt.natAbs < 2 ^ 32 := by
  have h1 := x.toInt_lt
  have h2 := x.le_toInt
  omega
theorem fdiv_n (x y : Int32) (h : ¬ y = 0) : vf_n32 (FP.fdiv (FP.i2f x) (FP.i2f y)) := by
  have h0 : y.toInt ≠ 0 := fun q => h (Int32.toInt_inj.mp (by rw [q]; rfl))
  have ex := (fp_int fpF32 (i32_abs x)).2
  have ey := (fp_int fpF32 (i32_abs y)).2
  have K := fp_div fpF32 (i32_abs x) (i32_abs y) h0
  have hs : 2 * (FP.Core.b32.exps * FP.Core.b32.tails) = 4294967296 := by decide
  have hs2 : FP.Core.b32.exps * FP.Core.b32.tails = 2147483648 := by decide
  have hs3 : (FP.Core.b32.exps - 1) * FP.Core.b32.tails = 2139095040 := by decide
  rw [hs] at ex ey K
  rw [hs2, hs3] at K
  have e1 : (FP.i2f x).toNat = FP.Core.fromInt FP.Core.b32 x.toInt := by
    show (UInt32.ofNat _).toNat = _
    rw [UInt32.toNat_ofNat_of_lt' ex]
  have e2 : (FP.i2f y).toNat = FP.Core.fromInt FP.Core.b32 y.toInt := by
    show (UInt32.ofNat _).toNat = _
    rw [UInt32.toNat_ofNat_of_lt' ey]
  unfold vf_n32
  rw [UInt32.le_iff_toNat_le, UInt32.toNat_and]
  have e3 : (FP.fdiv (FP.i2f x) (FP.i2f y)).toNat = FP.Core.div FP.Core.b32 (FP.Core.fromInt FP.Core.b32 x.toInt) (FP.Core.fromInt FP.Core.b32 y.toInt) := by
    show (UInt32.ofNat (FP.Core.div FP.Core.b32 (FP.i2f x).toNat (FP.i2f y).toNat)).toNat = _
    rw [e1, e2, UInt32.toNat_ofNat_of_lt' K.2]
  rw [e3, show (0x7fffffff : UInt32).toNat = 2 ^ 31 - 1 from by decide, Nat.and_two_pow_sub_one_eq_mod]
  exact K.1
theorem ddiv_n (x y : Int32) (h : ¬ y = 0) : vf_n64 (FP.ddiv (FP.i2d x) (FP.i2d y)) := by
  have h0 : y.toInt ≠ 0 := fun q => h (Int32.toInt_inj.mp (by rw [q]; rfl))
  have ex := (fp_int fpF64 (i32_abs x)).2
  have ey := (fp_int fpF64 (i32_abs y)).2
  have K := fp_div fpF64 (i32_abs x) (i32_abs y) h0
  have hs : 2 * (FP.Core.b64.exps * FP.Core.b64.tails) = 18446744073709551616 := by decide
  have hs2 : FP.Core.b64.exps * FP.Core.b64.tails = 9223372036854775808 := by decide
  have hs3 : (FP.Core.b64.exps - 1) * FP.Core.b64.tails = 9218868437227405312 := by decide
  rw [hs] at ex ey K
  rw [hs2, hs3] at K
  have e1 : (FP.i2d x).toNat = FP.Core.fromInt FP.Core.b64 x.toInt := by
    show (UInt64.ofNat _).toNat = _
    rw [UInt64.toNat_ofNat_of_lt' ex]
  have e2 : (FP.i2d y).toNat = FP.Core.fromInt FP.Core.b64 y.toInt := by
    show (UInt64.ofNat _).toNat = _
    rw [UInt64.toNat_ofNat_of_lt' ey]
  unfold vf_n64
  rw [UInt64.le_iff_toNat_le, UInt64.toNat_and]
  have e3 : (FP.ddiv (FP.i2d x) (FP.i2d y)).toNat = FP.Core.div FP.Core.b64 (FP.Core.fromInt FP.Core.b64 x.toInt) (FP.Core.fromInt FP.Core.b64 y.toInt) := by
    show (UInt64.ofNat (FP.Core.div FP.Core.b64 (FP.i2d x).toNat (FP.i2d y).toNat)).toNat = _
    rw [e1, e2, UInt64.toNat_ofNat_of_lt' K.2]
  rw [e3, show (0x7fffffffffffffff : UInt64).toNat = 2 ^ 63 - 1 from by decide, Nat.and_two_pow_sub_one_eq_mod]
  exact K.1
