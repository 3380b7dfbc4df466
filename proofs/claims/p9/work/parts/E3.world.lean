/-! THE WORLD: class and reference, one growing address function AD -/
theorem h_conI {l : Launch} {y : MethodName} {cc : ByteArray} {nL : Nat} {ret : Option FieldType} {rm : Room} {D : va_G} {tys : List (ClassId × FieldType)} {f : Hf} {sz : Nat} {av : List Value} {p1 p2 : Int32 → Hf → Prop} {x1 x2 : String → Hf → Prop}
    (h : hMet l y cc nL ret rm D tys f sz av (hQi p1 D f sz) x1) (hp : ∀ r u, p1 r u → p2 r u) (hx : ∀ E u, x1 E u → x2 E u) : hMet l y cc nL ret rm D tys f sz av (hQi p2 D f sz) x2 := by
  intro p e ha hc hk s m args below hf happ hP hK
  obtain ⟨n, o, q1, q2, q3, q4⟩ := h p e ha hc hk s m args below hf happ hP hK
  refine ⟨n, o, q1, q2, q3, ?_⟩
  rcases q4 with ⟨⟨⟨r, u, e1, e2, e3⟩, e4⟩, t⟩ | ⟨q, ho, E, ce, L, ⟨u, w1, w2, w3⟩, t⟩
  · exact Or.inl ⟨⟨⟨r, u, e1, hp r u e2, e3⟩, e4⟩, t⟩
  · exact Or.inr ⟨q, ho, E, ce, L, ⟨u, hx _ _ w1, w2, w3⟩, t⟩
theorem h_conF {l : Launch} {y : MethodName} {cc : ByteArray} {nL : Nat} {ret : Option FieldType} {rm : Room} {D : va_G} {tys : List (ClassId × FieldType)} {f : Hf} {sz : Nat} {av : List Value} {p1 p2 : UInt32 → Hf → Prop} {x1 x2 : String → Hf → Prop}
    (h : hMet l y cc nL ret rm D tys f sz av (hQf p1 D f sz) x1) (hp : ∀ r u, p1 r u → p2 r u) (hx : ∀ E u, x1 E u → x2 E u) : hMet l y cc nL ret rm D tys f sz av (hQf p2 D f sz) x2 := by
  intro p e ha hc hk s m args below hf happ hP hK
  obtain ⟨n, o, q1, q2, q3, q4⟩ := h p e ha hc hk s m args below hf happ hP hK
  refine ⟨n, o, q1, q2, q3, ?_⟩
  rcases q4 with ⟨⟨⟨r, u, e1, e2, e3⟩, e4⟩, t⟩ | ⟨q, ho, E, ce, L, ⟨u, w1, w2, w3⟩, t⟩
  · exact Or.inl ⟨⟨⟨r, u, e1, hp r u e2, e3⟩, e4⟩, t⟩
  · exact Or.inr ⟨q, ho, E, ce, L, ⟨u, hx _ _ w1, w2, w3⟩, t⟩
theorem h_conD {l : Launch} {y : MethodName} {cc : ByteArray} {nL : Nat} {ret : Option FieldType} {rm : Room} {D : va_G} {tys : List (ClassId × FieldType)} {f : Hf} {sz : Nat} {av : List Value} {p1 p2 : UInt64 → Hf → Prop} {x1 x2 : String → Hf → Prop}
    (h : hMet l y cc nL ret rm D tys f sz av (hQd p1 D f sz) x1) (hp : ∀ r u, p1 r u → p2 r u) (hx : ∀ E u, x1 E u → x2 E u) : hMet l y cc nL ret rm D tys f sz av (hQd p2 D f sz) x2 := by
  intro p e ha hc hk s m args below hf happ hP hK
  obtain ⟨n, o, q1, q2, q3, q4⟩ := h p e ha hc hk s m args below hf happ hP hK
  refine ⟨n, o, q1, q2, q3, ?_⟩
  rcases q4 with ⟨⟨⟨r, u, e1, e2, e3⟩, e4⟩, t⟩ | ⟨q, ho, E, ce, L, ⟨u, w1, w2, w3⟩, t⟩
  · exact Or.inl ⟨⟨⟨r, u, e1, hp r u e2, e3⟩, e4⟩, t⟩
  · exact Or.inr ⟨q, ho, E, ce, L, ⟨u, hx _ _ w1, w2, w3⟩, t⟩
def AM (AD : Nat → Nat) : Nat → Nat := fun k => AD (k + 1)
def AOK (AD : Nat → Nat) (q q2 : Nat → Option Nat) : Prop := (∀ k, AD k < AD (k + 1)) ∧ HQ (AM AD) 0 q ∧ HQ (AM AD) 54 q2
section WD
variable {AD : Nat → Nat} {q q2 : Nat → Option Nat} {cy : Nat → ClassId} {f u w : Hf} {I J : Nat → Prop}
theorem AD_ne (h : AOK AD q q2) {i j : Nat} (hij : i ≠ j) : AD i ≠ AD j := mono_ne h.1 i j hij
theorem AM_ne (h : AOK AD q q2) : ∀ i j : Nat, i ≠ j → AM AD i ≠ AM AD j := fun i j hij => mono_ne h.1 (i + 1) (j + 1) (by omega)
theorem MA_ix {b y : Nat} (h : y ∈ MA (AM AD) b) : ∃ k, k < 54 ∧ y = AD (b + k + 1) := by
  obtain ⟨k, hk, e⟩ := List.mem_map.mp h
  exact ⟨k, List.mem_range.mp hk, e.symm⟩
theorem nMA (h : AOK AD q q2) {b i : Nat} (hi : i < b + 1 ∨ b + 55 ≤ i) : AD i ∉ MA (AM AD) b := by
  intro hm
  obtain ⟨k, hk, e⟩ := MA_ix hm
  exact AD_ne h (show i ≠ b + k + 1 by omega) e
/-- what is kept: the cells of AD outside I, and all steps -/
def FR (AD : Nat → Nat) (f u : Hf) (I : Nat → Prop) : Prop := (∀ i e, ¬ I i → f (AD i) = some e → u (AD i) = some e) ∧ ∀ (a : Nat) (Z : Nat → Int32), f a = some (scell Z) → u a = some (scell Z)
theorem FR_mk {L : List Nat} (h : AOK AD q q2) (hf : hFrL f u L) (hL : ∀ y ∈ L, ∃ i, I i ∧ y = AD i) (hn : ∀ i, I i → ∀ Z : Nat → Int32, f (AD i) ≠ some (scell Z)) : FR AD f u I := by
  refine ⟨fun i e hi he => hf _ _ (fun hm => ?_) he, fun a Z ha => hf _ _ (fun hm => ?_) ha⟩
  · obtain ⟨j, hj, e2⟩ := hL _ hm
    by_cases hij : i = j
    · subst hij; exact hi hj
    · exact AD_ne h hij e2
  · obtain ⟨j, hj, e2⟩ := hL _ hm
    subst e2
    exact hn j hj Z ha
theorem FR_rfl : FR AD f f I := ⟨fun _ _ _ h => h, fun _ _ h => h⟩
theorem FR_le (h : FR AD f u I) (hIJ : ∀ i, I i → J i) : FR AD f u J := ⟨fun i e hi he => h.1 i e (fun c => hi (hIJ i c)) he, h.2⟩
theorem FR_trans (h : FR AD f u I) (h2 : FR AD u w J) : FR AD f w (fun i => I i ∨ J i) := ⟨fun i e hi he => h2.1 i e (fun c => hi (Or.inr c)) (h.1 i e (fun c => hi (Or.inl c)) he), fun a Z ha => h2.2 a Z (h.2 a Z ha)⟩
theorem FR_up (h : AOK AD q q2) {j : Nat} {c : va_E} (hn : ∀ Z : Nat → Int32, f (AD j) ≠ some (scell Z)) (hu : u = va_up f (AD j) (some c)) : FR AD f u (fun i => i = j) ∧ u (AD j) = some c := by
  subst hu
  refine ⟨⟨fun i e hi he => ?_, fun a Z ha => ?_⟩, hus rfl⟩
  · exact hup rfl (AD_ne h hi) he
  · exact hup rfl (fun c9 => hn Z (by rw [← c9]; exact ha)) ha
theorem nsc_r {a ci : Nat} {fs : List Value} (h : f a = some (.inr (ci, fs))) (hc : ci ≠ 7) : ∀ Z : Nat → Int32, f a ≠ some (scell Z) := fun Z h2 => by
  have h3 := congrArg Prod.fst (Sum.inr.inj (Option.some.inj (h.symm.trans h2)))
  exact hc h3
theorem nsc_a {a : Nat} {x : ClassId × vp_A} (h : f a = some (.inl x)) : ∀ Z : Nat → Int32, f a ≠ some (scell Z) := fun Z h2 => by
  have h3 := Option.some.inj (h.symm.trans h2)
  cases h3
theorem nsc_m {b : Nat} {qq : Nat → Option Nat} {cm : Nat → Int32} {cs : Nat → Nat → Nat → Int32} (h : MW (AM AD) b cy qq cm cs f) {i : Nat} (hi : b + 1 ≤ i ∧ i ≤ b + 54) : ∀ Z : Nat → Int32, f (AD i) ≠ some (scell Z) := fun Z h2 => by
  refine MW_kind h h2 ⟨by decide, by decide, by decide, by decide⟩ ?_
  refine List.mem_map.mpr ⟨i - b - 1, List.mem_range.mpr (by omega), ?_⟩
  unfold AM
  exact congrArg AD (by omega)
def XC (AD : Nat → Nat) (f : Hf) (xa xr xk : Int32) : Prop := f (AD 0) = some (.inr (10, [.ref (AM AD (0 + 0)), .ref (AM AD (54 + 0)), .ref (AD 109), .ref (AD 113), .ref (AD 117), .ref (AD 121), .ref (AD 123), .int xa, .int xr, .int xk]))
def LG (AD : Nat → Nat) (cy : Nat → ClassId) (i : Nat) (f : Hf) (lo le lfi : Int32) (nS nC : Nat) (lun : Int32) (ge : Nat → Int32) (SS : Nat → Nat → Int32) : Prop := f (AD i) = some (.inr (3, [.ref (AD (i + 1)), .ref (AD (i + 2)), .ref (AD (i + 3)), .int lo, .int le, .int lfi, .int (nI nS), .int (nI nC), .int lun])) ∧ f (AD (i + 3)) = some (.inl (cy 0, 512, .inl ge)) ∧ ∃ (qs : Nat → Option Nat) (sq : Nat → Nat), f (AD (i + 2)) = some (.inl (cy 4, 512, .inr (.inr (.inr (.inr qs))))) ∧ ∀ j : Nat, j < nS → qs j = some (sq j) ∧ f (sq j) = some (scell (SS j))
def MC (AD : Nat → Nat) (f : Hf) (th re un hi tn fa rf : Int32) : Prop := ∃ ps pl to : Int32, f (AD 125) = some (.inr (11, [.int th, .int re, .ref (AD 126), .ref (AD 127), .ref (AD 128), .ref (AD 129), .ref (AD 130), .ref (AD 131), .int un, .int hi, .ref (AD 132), .int tn, .int fa, .int rf, .ref (AD 133), .int ps, .int pl, .int to, .ref (AD 134), .ref (AD 135), .ref (AD 136), .ref (AD 137)]))
def IA (AD : Nat → Nat) (cy : Nat → ClassId) (f : Hf) (i n : Nat) (g : Nat → Int32) : Prop := f (AD i) = some (.inl (cy 0, n, .inl g))
def FA (AD : Nat → Nat) (cy : Nat → ClassId) (f : Hf) (i n : Nat) (g : Nat → UInt32) : Prop := f (AD i) = some (.inl (cy 2, n, .inr (.inr (.inl g))))
/-- the text, both -/
def TXC (AD : Nat → Nat) (cy : Nat → ClassId) (f : Hf) (tl : Nat) (gb : Nat → Int32) : Prop := (∃ tc : Int32, f (AD 117) = some (.inr (9, [.ref (AD 118), .ref (AD 119), .ref (AD 120), .int (nI tl), .int tc]))) ∧ f (AD 118) = some (.inl (cy 1, 60, .inl gb)) ∧ ∃ qp : Nat → Option Nat, f (AD 120) = some (.inl (cy 4, 60, .inr (.inr (.inr (.inr qp)))))
/-- what a saved match says -/
def JS (hi lo le lfi : Int32) (nS nC : Nat) (ge : Nat → Int32) (SS : Nat → Nat → Int32) (gi gj : Nat → Int32) : Prop := (hi = 0 ∧ le = 0 ∧ nS = 0 ∧ gi 23 = 0) ∨ (hi = 1 ∧ ∃ E, JLOG lo le lfi nS nC E ge SS gi gj)
def SVG (AD : Nat → Nat) (cy : Nat → ClassId) (f : Hf) (hi : Int32) (tl k : Nat) : Prop := ∃ (lo le lfi lun : Int32) (nS nC : Nat) (ge : Nat → Int32) (SS : Nat → Nat → Int32) (gi gj : Nat → Int32), LG AD cy 113 f lo le lfi nS nC lun ge SS ∧ IA AD cy f 127 6441 gi ∧ IA AD cy f 131 24000 gj ∧ JS hi lo le lfi nS nC ge SS gi gj ∧ nS + tl ≤ k
def TXG (AD : Nat → Nat) (cy : Nat → ClassId) (f : Hf) (tl : Nat) : Prop := ∃ gb gx : Nat → Int32, TXC AD cy f tl gb ∧ IA AD cy f 132 60 gx ∧ CHR tl gb gx ∧ ∀ k : Nat, narrow .char (.int (gb k)) = .int (gb k)
def RBD (_ : Int32) : Prop := True
/-- a stored row, both -/
def JRW (b : Nat) (st ex ln : Int32) (gz : Nat → UInt32) (gs gm gw : Nat → Int32) (gf : Nat → UInt32) : Prop := ∃ n, n ≤ 20 ∧ ln = nI n ∧ (ex = 0 ∨ ex = 1) ∧ ((st = 0 ∧ gs b = 0) ∨ (st = 1 ∧ gs b = (if ex = 0 then 2 else 1) ∧ gm b = nI n ∧ ∀ j, j < n → vf_n32 (gz j) ∧ (if ex = 0 then gf (21 * b + j) = gz j else ∃ x : Int32, RBD x ∧ gw (21 * b + j) = x ∧ gz j = FP.i2f x)))
def RW (AD : Nat → Nat) (cy : Nat → ClassId) (i : Nat) (f : Hf) (st ex ln : Int32) (gz : Nat → UInt32) : Prop := f (AD i) = some (.inr (6, [.ref (AD (i + 1)), .int st, .int ex, .int ln])) ∧ FA AD cy f (i + 1) 20 gz
def RRW (AD : Nat → Nat) (cy : Nat → ClassId) (f : Hf) (gs gm gw : Nat → Int32) (gf : Nat → UInt32) : Prop := IA AD cy f 134 2 gs ∧ IA AD cy f 135 2 gm ∧ IA AD cy f 136 42 gw ∧ FA AD cy f 137 42 gf
def ROG (AD : Nat → Nat) (cy : Nat → ClassId) (f : Hf) : Prop := ∃ (st ex ln st' ex' ln' : Int32) (gz gy : Nat → UInt32) (gs gm gw : Nat → Int32) (gf : Nat → UInt32), RW AD cy 121 f st ex ln gz ∧ RW AD cy 123 f st' ex' ln' gy ∧ RRW AD cy f gs gm gw gf ∧ JRW 0 st ex ln gz gs gm gw gf ∧ JRW 1 st' ex' ln' gy gs gm gw gf
def JNK (AD : Nat → Nat) (cy : Nat → ClassId) (q2 : Nat → Option Nat) (f : Hf) : Prop := (∃ (cm2 : Nat → Int32) (cs2 : Nat → Nat → Nat → Int32), MW (AM AD) 54 cy q2 cm2 cs2 f) ∧ (∃ gk, IA AD cy f 128 6441 gk) ∧ (∃ gq, IA AD cy f 133 240 gq)
def OUT (AD : Nat → Nat) (cy : Nat → ClassId) (f : Hf) (o : Nat → Int64) : Prop := f (AD 138) = some (.inl (cy 5, 1, .inr (.inl o)))
def OUD (AD : Nat → Nat) (cy : Nat → ClassId) (f : Hf) (od : Nat → UInt64) : Prop := f (AD 139) = some (.inl (cy 6, 1, .inr (.inr (.inr (.inl od)))))
def CMN (AD : Nat → Nat) (cy : Nat → ClassId) (q : Nat → Option Nat) (f : Hf) (cm : Nat → Int32) (cs : Nat → Nat → Nat → Int32) (lo le lfi : Int32) (w nS nC : Nat) (ge : Nat → Int32) (SS : Nat → Nat → Int32) : Prop := MW (AM AD) 0 cy q cm cs f ∧ LG AD cy 109 f lo le lfi nS nC (nI w) ge SS
def RMN (AD : Nat → Nat) (cy : Nat → ClassId) (f : Hf) (g gp gd : Nat → Int32) : Prop := IA AD cy f 126 6441 g ∧ IA AD cy f 129 51528 gp ∧ IA AD cy f 130 24000 gd
/-- the rest beside the match, the cells of the two objects and the answers -/
def RST (AD : Nat → Nat) (cy : Nat → ClassId) (q2 : Nat → Option Nat) (f : Hf) (hi : Int32) (tl k : Nat) : Prop := SVG AD cy f hi tl k ∧ TXG AD cy f tl ∧ ROG AD cy f ∧ JNK AD cy q2 f ∧ ∃ od, OUD AD cy f od
theorem IA_fr {i n : Nat} {g : Nat → Int32} (h : FR AD f u I) (hi : ¬ I i) (hx : IA AD cy f i n g) : IA AD cy u i n g := h.1 i _ hi hx
theorem FA_fr {i n : Nat} {g : Nat → UInt32} (h : FR AD f u I) (hi : ¬ I i) (hx : FA AD cy f i n g) : FA AD cy u i n g := h.1 i _ hi hx
theorem XC_fr {xa xr xk : Int32} (h : FR AD f u I) (hi : ¬ I 0) (hx : XC AD f xa xr xk) : XC AD u xa xr xk := h.1 0 _ hi hx
theorem MC_fr {th re un hi tn fa rf : Int32} (h : FR AD f u I) (hi9 : ¬ I 125) (hx : MC AD f th re un hi tn fa rf) : MC AD u th re un hi tn fa rf := by
  obtain ⟨ps, pl, to, hx⟩ := hx
  exact ⟨ps, pl, to, h.1 125 _ hi9 hx⟩
theorem MW_FR {b : Nat} {qq : Nat → Option Nat} {cm : Nat → Int32} {cs : Nat → Nat → Nat → Int32} (h : FR AD f u I) (hi : ∀ i, b + 1 ≤ i → i ≤ b + 54 → ¬ I i) (hx : MW (AM AD) b cy qq cm cs f) : MW (AM AD) b cy qq cm cs u := fun k hk => h.1 (b + k + 1) _ (hi _ (by omega) (by omega)) (hx k hk)
theorem LG_fr {i : Nat} {lo le lfi lun : Int32} {nS nC : Nat} {ge : Nat → Int32} {SS : Nat → Nat → Int32} (h : FR AD f u I) (h0 : ¬ I i) (h2 : ¬ I (i + 2)) (h3 : ¬ I (i + 3)) (hx : LG AD cy i f lo le lfi nS nC lun ge SS) : LG AD cy i u lo le lfi nS nC lun ge SS := by
  obtain ⟨a1, a2, qs, sq, a3, a4⟩ := hx
  exact ⟨h.1 _ _ h0 a1, h.1 _ _ h3 a2, qs, sq, h.1 _ _ h2 a3, fun j hj => ⟨(a4 j hj).1, h.2 _ _ (a4 j hj).2⟩⟩
theorem TXC_fr {tl : Nat} {gb : Nat → Int32} (h : FR AD f u I) (h0 : ¬ I 117) (h1 : ¬ I 118) (h2 : ¬ I 120) (hx : TXC AD cy f tl gb) : TXC AD cy u tl gb := by
  obtain ⟨⟨tc, a1⟩, a2, qp, a3⟩ := hx
  exact ⟨⟨tc, h.1 _ _ h0 a1⟩, h.1 _ _ h1 a2, qp, h.1 _ _ h2 a3⟩
theorem RW_fr {i : Nat} {st ex ln : Int32} {gz : Nat → UInt32} (h : FR AD f u I) (h0 : ¬ I i) (h1 : ¬ I (i + 1)) (hx : RW AD cy i f st ex ln gz) : RW AD cy i u st ex ln gz := ⟨h.1 _ _ h0 hx.1, h.1 _ _ h1 hx.2⟩
theorem RRW_fr {gs gm gw : Nat → Int32} {gf : Nat → UInt32} (h : FR AD f u I) (h0 : ¬ I 134) (h1 : ¬ I 135) (h2 : ¬ I 136) (h3 : ¬ I 137) (hx : RRW AD cy f gs gm gw gf) : RRW AD cy u gs gm gw gf := ⟨h.1 _ _ h0 hx.1, h.1 _ _ h1 hx.2.1, h.1 _ _ h2 hx.2.2.1, h.1 _ _ h3 hx.2.2.2⟩
theorem SVG_fr {hi : Int32} {tl k k2 : Nat} (h : FR AD f u I) (h0 : ¬ I 113) (h1 : ¬ I 115) (h2 : ¬ I 116) (h3 : ¬ I 127) (h4 : ¬ I 131) (hk : k ≤ k2) (hx : SVG AD cy f hi tl k) : SVG AD cy u hi tl k2 := by
  obtain ⟨lo, le, lfi, lun, nS, nC, ge, SS, gi, gj, a1, a2, a3, a4, a5⟩ := hx
  exact ⟨lo, le, lfi, lun, nS, nC, ge, SS, gi, gj, LG_fr h h0 h1 h2 a1, IA_fr h h3 a2, IA_fr h h4 a3, a4, by omega⟩
theorem TXG_fr {tl : Nat} (h : FR AD f u I) (h0 : ¬ I 117) (h1 : ¬ I 118) (h2 : ¬ I 120) (h3 : ¬ I 132) (hx : TXG AD cy f tl) : TXG AD cy u tl := by
  obtain ⟨gb, gx, a1, a2, a3⟩ := hx
  exact ⟨gb, gx, TXC_fr h h0 h1 h2 a1, IA_fr h h3 a2, a3⟩
theorem ROG_fr (h : FR AD f u I) (hi : ∀ i, 121 ≤ i → i ≤ 124 → ¬ I i) (hj : ∀ i, 134 ≤ i → i ≤ 137 → ¬ I i) (hx : ROG AD cy f) : ROG AD cy u := by
  obtain ⟨st, ex, ln, st', ex', ln', gz, gy, gs, gm, gw, gf, a1, a2, a3, a4⟩ := hx
  exact ⟨st, ex, ln, st', ex', ln', gz, gy, gs, gm, gw, gf, RW_fr h (hi _ (by omega) (by omega)) (hi _ (by omega) (by omega)) a1, RW_fr h (hi _ (by omega) (by omega)) (hi _ (by omega) (by omega)) a2, RRW_fr h (hj _ (by omega) (by omega)) (hj _ (by omega) (by omega)) (hj _ (by omega) (by omega)) (hj _ (by omega) (by omega)) a3, a4⟩
theorem JNK_fr (h : FR AD f u I) (hi : ∀ i, 55 ≤ i → i ≤ 108 → ¬ I i) (h1 : ¬ I 128) (h2 : ¬ I 133) (hx : JNK AD cy q2 f) : JNK AD cy q2 u := by
  obtain ⟨⟨cm2, cs2, a1⟩, ⟨gk, a2⟩, ⟨gq, a3⟩⟩ := hx
  exact ⟨⟨cm2, cs2, MW_FR h (fun i h1 h2 => hi i (by omega) (by omega)) a1⟩, ⟨gk, IA_fr h h1 a2⟩, ⟨gq, IA_fr h h2 a3⟩⟩
theorem OUT_fr {o : Nat → Int64} (h : FR AD f u I) (hi : ¬ I 138) (hx : OUT AD cy f o) : OUT AD cy u o := h.1 138 _ hi hx
theorem OUD_fr {o : Nat → UInt64} (h : FR AD f u I) (hi : ¬ I 139) (hx : OUD AD cy f o) : OUD AD cy u o := h.1 139 _ hi hx
theorem CMN_fr {cm : Nat → Int32} {cs : Nat → Nat → Nat → Int32} {lo le lfi : Int32} {w nS nC : Nat} {ge : Nat → Int32} {SS : Nat → Nat → Int32} (h : FR AD f u I) (hi : ∀ i, 1 ≤ i → i ≤ 54 → ¬ I i) (h1 : ¬ I 109) (h2 : ¬ I 111) (h3 : ¬ I 112) (hx : CMN AD cy q f cm cs lo le lfi w nS nC ge SS) : CMN AD cy q u cm cs lo le lfi w nS nC ge SS := ⟨MW_FR h (fun i h1 h2 => hi i (by omega) (by omega)) hx.1, LG_fr h h1 h2 h3 hx.2⟩
theorem RMN_fr {g gp gd : Nat → Int32} (h : FR AD f u I) (h1 : ¬ I 126) (h2 : ¬ I 129) (h3 : ¬ I 130) (hx : RMN AD cy f g gp gd) : RMN AD cy u g gp gd := ⟨IA_fr h h1 hx.1, IA_fr h h2 hx.2.1, IA_fr h h3 hx.2.2⟩
theorem RST_fr {hi : Int32} {tl k k2 : Nat} (h : FR AD f u I) (hn : ∀ i, (55 ≤ i ∧ i ≤ 108) ∨ (113 ≤ i ∧ i ≤ 124) ∨ i = 127 ∨ i = 128 ∨ (131 ≤ i ∧ i ≤ 137) ∨ i = 139 → ¬ I i) (hk : k ≤ k2) (hx : RST AD cy q2 f hi tl k) : RST AD cy q2 u hi tl k2 := by
  obtain ⟨a1, a2, a3, a4, od, a5⟩ := hx
  exact ⟨SVG_fr h (hn _ (by omega)) (hn _ (by omega)) (hn _ (by omega)) (hn _ (by omega)) (hn _ (by omega)) hk a1, TXG_fr h (hn _ (by omega)) (hn _ (by omega)) (hn _ (by omega)) (hn _ (by omega)) a2, ROG_fr h (fun i h1 h2 => hn _ (by omega)) (fun i h1 h2 => hn _ (by omega)) a3, JNK_fr h (fun i h1 h2 => hn _ (by omega)) (hn _ (by omega)) (hn _ (by omega)) a4, od, OUD_fr h (hn _ (by omega)) a5⟩
end WD
/-- class and reference alike after k calls; the reference's last call threw th; the class's last answer is o -/
def WJ (AD : Nat → Nat) (cy : Nat → ClassId) (q q2 : Nat → Option Nat) (k : Nat) (th : Int32) (o : Nat → Int64) (f : Hf) : Prop := AOK AD q q2 ∧ ∃ (xa xr xk hi : Int32) (tl w nS nC : Nat) (cm : Nat → Int32) (cs : Nat → Nat → Nat → Int32) (lo le lfi : Int32) (ge : Nat → Int32) (SS : Nat → Nat → Int32) (g gp gd : Nat → Int32), XC AD f xa xr xk ∧ MC AD f th xk (nI w) hi (nI tl) xa xr ∧ CMN AD cy q f cm cs lo le lfi w nS nC ge SS ∧ RMN AD cy f g gp gd ∧ RST AD cy q2 f hi tl k ∧ OUT AD cy f o ∧ JM cm cs lo le lfi w nS nC ge SS g gp gd ∧ nS + tl ≤ k
