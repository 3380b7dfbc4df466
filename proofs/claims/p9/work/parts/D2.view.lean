/-! ROWS OF NUMBERS SEEN THROUGH A WINDOW: Wn b n g = the n numbers of g from b on; a write outside leaves it, a write inside is a write of it -/
def incr (g : Nat → Int32) (k : Nat) (x : Int32) : Nat → Int32 := upd g k (g k + x)
theorem upd_ap {g : Nat → Int32} {k j : Nat} {v : Int32} : upd g k v j = if j = k then v else g j := rfl
theorem incr_ap {g : Nat → Int32} {k j : Nat} {x : Int32} : incr g k x j = if j = k then g k + x else g j := rfl
theorem incr_off {g : Nat → Int32} {k j : Nat} {x : Int32} (h : j ≠ k) : incr g k x j = g j := upd_off h
theorem incr_at {g : Nat → Int32} {k : Nat} {x : Int32} : incr g k x k = g k + x := upd_at
theorem incr_0 {g : Nat → Int32} {k : Nat} : incr g k 0 = g := by
  funext j
  rw [incr_ap]
  by_cases h : j = k
  · rw [if_pos h, h, Int32.add_zero]
  · rw [if_neg h]
theorem incr_comm {g : Nat → Int32} {k l : Nat} {x y : Int32} (h : k ≠ l) : incr (incr g k x) l y = incr (incr g l y) k x := by
  funext j
  rw [incr_ap, incr_ap, incr_ap, incr_ap, incr_ap, incr_ap]
  by_cases h1 : j = l
  · have h2 : ¬ l = k := fun q => h q.symm
    subst h1
    rw [if_pos rfl, if_neg h2, if_neg h2, if_pos rfl]
  · rw [if_neg h1]
    by_cases h2 : j = k
    · rw [if_pos h2, if_pos h2, if_neg h]
    · rw [if_neg h2, if_neg h2, if_neg h1]
theorem upd_comm {g : Nat → Int32} {k l : Nat} {x y : Int32} (h : k ≠ l) : upd (upd g k x) l y = upd (upd g l y) k x := by
  funext j
  rw [upd_ap, upd_ap, upd_ap, upd_ap]
  by_cases h1 : j = l
  · have h2 : ¬ l = k := fun q => h q.symm
    subst h1
    rw [if_pos rfl, if_neg h2, if_pos rfl]
  · rw [if_neg h1, if_neg h1]
theorem upd_upd {g : Nat → Int32} {k : Nat} {x y : Int32} : upd (upd g k x) k y = upd g k y := by
  funext j
  rw [upd_ap, upd_ap, upd_ap]
  by_cases h : j = k
  · rw [if_pos h, if_pos h]
  · rw [if_neg h, if_neg h, if_neg h]
def EQ (n : Nat) (f g : Nat → Int32) : Prop := ∀ k, k < n → f k = g k
theorem EQ_rf {n : Nat} {f : Nat → Int32} : EQ n f f := fun _ _ => rfl
theorem EQ_upd {n k : Nat} {f g : Nat → Int32} {x y : Int32} (h : EQ n f g) (e : x = y) : EQ n (upd f k x) (upd g k y) := by
  intro j hj
  rw [upd_ap, upd_ap, e, h j hj]
theorem EQ_incr {n k : Nat} {f g : Nat → Int32} {x : Int32} (h : EQ n f g) (hk : k < n) : EQ n (incr f k x) (incr g k x) := EQ_upd h (by rw [h k hk])
theorem EQ_mono {n m : Nat} {f g : Nat → Int32} (h : EQ n f g) (hm : m ≤ n) : EQ m f g := fun k hk => h k (by omega)
def Wn (b n : Nat) (g : Nat → Int32) : Nat → Int32 := fun k => if k < n then g (b + k) else 0
theorem Wn_at {b n k : Nat} {g : Nat → Int32} (h : k < n) : Wn b n g k = g (b + k) := if_pos h
theorem Wn_out {b n p : Nat} {g : Nat → Int32} {v : Int32} (h : p < b ∨ b + n ≤ p) : Wn b n (upd g p v) = Wn b n g := by
  funext k
  unfold Wn
  by_cases hk : k < n
  · rw [if_pos hk, if_pos hk, upd_off (by omega)]
  · rw [if_neg hk, if_neg hk]
theorem Wn_in {b n k : Nat} {g : Nat → Int32} {v : Int32} (h : k < n) : Wn b n (upd g (b + k) v) = upd (Wn b n g) k v := by
  funext j
  by_cases hj : j < n
  · rw [Wn_at hj, upd_ap, upd_ap, Wn_at hj]
    by_cases e : j = k
    · rw [if_pos e, if_pos (by omega)]
    · rw [if_neg e, if_neg (by omega)]
  · rw [upd_off (by omega)]
    unfold Wn
    rw [if_neg hj, if_neg hj]
theorem Wn_inI {b n k : Nat} {g : Nat → Int32} {x : Int32} (h : k < n) : Wn b n (incr g (b + k) x) = incr (Wn b n g) k x := by
  show Wn b n (upd g (b + k) (g (b + k) + x)) = upd (Wn b n g) k (Wn b n g k + x)
  rw [Wn_in h, Wn_at h]
theorem Wn_outI {b n p : Nat} {g : Nat → Int32} {x : Int32} (h : p < b ∨ b + n ≤ p) : Wn b n (incr g p x) = Wn b n g := Wn_out h
theorem Wn_ite {b n : Nat} {q : Prop} [Decidable q] {g h : Nat → Int32} : Wn b n (if q then g else h) = if q then Wn b n g else Wn b n h := by split <;> rfl
/-- the batters, the bowlers, the partnerships: the index of a row and a column -/
theorem W1_in {i a w : Nat} {g : Nat → Int32} {v : Int32} (ha : a < 11) (hw : w < 6) : Wn (69 + 66 * i) 66 (upd g (69 + 6 * (11 * i + a) + w) v) = upd (Wn (69 + 66 * i) 66 g) (a * 6 + w) v := by
  have e : 69 + 6 * (11 * i + a) + w = 69 + 66 * i + (a * 6 + w) := by omega
  rw [e, Wn_in (by omega)]
theorem W1_inI {i a w : Nat} {g : Nat → Int32} {x : Int32} (ha : a < 11) (hw : w < 6) : Wn (69 + 66 * i) 66 (incr g (69 + 6 * (11 * i + a) + w) x) = incr (Wn (69 + 66 * i) 66 g) (a * 6 + w) x := by
  have e : 69 + 6 * (11 * i + a) + w = 69 + 66 * i + (a * 6 + w) := by omega
  rw [e, Wn_inI (by omega)]
theorem W1_at {i a w : Nat} {g : Nat → Int32} (ha : a < 11) (hw : w < 6) : g (69 + 6 * (11 * i + a) + w) = Wn (69 + 66 * i) 66 g (a * 6 + w) := by
  have e : 69 + 6 * (11 * i + a) + w = 69 + 66 * i + (a * 6 + w) := by omega
  rw [e, Wn_at (by omega)]
theorem W2_in {i a w : Nat} {g : Nat → Int32} {v : Int32} (ha : a < 11) (hw : w < 7) : Wn (333 + 77 * i) 77 (upd g (333 + 7 * (11 * i + a) + w) v) = upd (Wn (333 + 77 * i) 77 g) (a * 7 + w) v := by
  have e : 333 + 7 * (11 * i + a) + w = 333 + 77 * i + (a * 7 + w) := by omega
  rw [e, Wn_in (by omega)]
theorem W2_inI {i a w : Nat} {g : Nat → Int32} {x : Int32} (ha : a < 11) (hw : w < 7) : Wn (333 + 77 * i) 77 (incr g (333 + 7 * (11 * i + a) + w) x) = incr (Wn (333 + 77 * i) 77 g) (a * 7 + w) x := by
  have e : 333 + 7 * (11 * i + a) + w = 333 + 77 * i + (a * 7 + w) := by omega
  rw [e, Wn_inI (by omega)]
theorem W2_at {i a w : Nat} {g : Nat → Int32} (ha : a < 11) (hw : w < 7) : g (333 + 7 * (11 * i + a) + w) = Wn (333 + 77 * i) 77 g (a * 7 + w) := by
  have e : 333 + 7 * (11 * i + a) + w = 333 + 77 * i + (a * 7 + w) := by omega
  rw [e, Wn_at (by omega)]
theorem W3_in {b r s w : Nat} {g : Nat → Int32} {v : Int32} (hs : s = b + r) (hr : 1 ≤ r) (hw : w < 8) : Wn (841 + 8 * b) (8 * r) (upd g (841 + 8 * (s - 1) + w) v) = upd (Wn (841 + 8 * b) (8 * r) g) ((r - 1) * 8 + w) v := by
  have e : 841 + 8 * (s - 1) + w = 841 + 8 * b + ((r - 1) * 8 + w) := by omega
  rw [e, Wn_in (by omega)]
theorem W3_inI {b r s w : Nat} {g : Nat → Int32} {x : Int32} (hs : s = b + r) (hr : 1 ≤ r) (hw : w < 8) : Wn (841 + 8 * b) (8 * r) (incr g (841 + 8 * (s - 1) + w) x) = incr (Wn (841 + 8 * b) (8 * r) g) ((r - 1) * 8 + w) x := by
  have e : 841 + 8 * (s - 1) + w = 841 + 8 * b + ((r - 1) * 8 + w) := by omega
  rw [e, Wn_inI (by omega)]
theorem W3_in0 {b r s : Nat} {g : Nat → Int32} {x : Int32} (hs : s = b + r) (hr : 1 ≤ r) : Wn (841 + 8 * b) (8 * r) (incr g (841 + 8 * (s - 1)) x) = incr (Wn (841 + 8 * b) (8 * r) g) ((r - 1) * 8 + 0) x := W3_inI (w := 0) hs hr (by omega)
theorem W3_at {b r s w : Nat} {g : Nat → Int32} (hs : s = b + r) (hr : 1 ≤ r) (hw : w < 8) : g (841 + 8 * (s - 1) + w) = Wn (841 + 8 * b) (8 * r) g ((r - 1) * 8 + w) := by
  have e : 841 + 8 * (s - 1) + w = 841 + 8 * b + ((r - 1) * 8 + w) := by omega
  rw [e, Wn_at (by omega)]
theorem WS_in {p : Nat} {g : Nat → Int32} {v : Int32} (h : p < 25) : Wn 0 25 (upd g p v) = upd (Wn 0 25 g) p v := by
  have e : p = 0 + p := by omega
  have h9 : Wn 0 25 (upd g (0 + p) v) = upd (Wn 0 25 g) p v := Wn_in h
  rw [← e] at h9
  exact h9
theorem WS_inI {p : Nat} {g : Nat → Int32} {x : Int32} (h : p < 25) : Wn 0 25 (incr g p x) = incr (Wn 0 25 g) p x := by
  have e : p = 0 + p := by omega
  have h9 : Wn 0 25 (incr g (0 + p) x) = incr (Wn 0 25 g) p x := Wn_inI h
  rw [← e] at h9
  exact h9
theorem WS_at {p : Nat} {g : Nat → Int32} (h : p < 25) : g p = Wn 0 25 g p := by rw [Wn_at h]; congr 1; omega
/-! the program's tables -/
theorem ti8 {g : Nat → Int32} {c x : Int32} (k : Nat) (hc : c = nI k) (hk : k < 8) : tinc 8 1 8 g 0 c x = incr g k x := by
  rw [hc, show tinc 8 1 8 g 0 (nI k) x = upd g (0 * 8 + k) (g (0 * 8 + k) + x) from tinc_nI (C := 8) (R := 1) (n := 8) (r := 0) (c := k) g x (by omega) hk (by omega) (by omega) (by omega) (by omega), Nat.zero_mul, Nat.zero_add]
  rfl
theorem ts8 {g : Nat → Int32} {c v : Int32} (k : Nat) (hc : c = nI k) (hk : k < 8) : tset 8 1 8 g 0 c v = upd g k v := by
  rw [hc, show tset 8 1 8 g 0 (nI k) v = upd g (0 * 8 + k) v from tset_nI (C := 8) (R := 1) (n := 8) (r := 0) (c := k) g v (by omega) hk (by omega) (by omega) (by omega) (by omega), Nat.zero_mul, Nat.zero_add]
theorem tg8 {g : Nat → Int32} {c : Int32} (k : Nat) (hc : c = nI k) (hk : k < 8) : tget 8 1 8 g 0 c = g k := by
  rw [hc, show tget 8 1 8 g 0 (nI k) = g (0 * 8 + k) from tget_nI (C := 8) (R := 1) (n := 8) (r := 0) (c := k) g (by omega) hk (by omega) (by omega) (by omega) (by omega), Nat.zero_mul, Nat.zero_add]
theorem ti6 {g : Nat → Int32} {p c x : Int32} (a k : Nat) (hp : p = nI a) (ha : a < 11) (hc : c = nI k) (hk : k < 6) : tinc 6 11 66 g p c x = incr g (a * 6 + k) x := by
  rw [hp, hc]
  exact tinc_nI (C := 6) (R := 11) (n := 66) g x ha hk (by omega) (by omega) (by omega) (by omega)
theorem ts6 {g : Nat → Int32} {p c v : Int32} (a k : Nat) (hp : p = nI a) (ha : a < 11) (hc : c = nI k) (hk : k < 6) : tset 6 11 66 g p c v = upd g (a * 6 + k) v := by
  rw [hp, hc]
  exact tset_nI (C := 6) (R := 11) (n := 66) g v ha hk (by omega) (by omega) (by omega) (by omega)
theorem tg6 {g : Nat → Int32} {p c : Int32} (a k : Nat) (hp : p = nI a) (ha : a < 11) (hc : c = nI k) (hk : k < 6) : tget 6 11 66 g p c = g (a * 6 + k) := by
  rw [hp, hc]
  exact tget_nI (C := 6) (R := 11) (n := 66) g ha hk (by omega) (by omega) (by omega) (by omega)
theorem ti7 {g : Nat → Int32} {p c x : Int32} (a k : Nat) (hp : p = nI a) (ha : a < 11) (hc : c = nI k) (hk : k < 7) : tinc 7 11 77 g p c x = incr g (a * 7 + k) x := by
  rw [hp, hc]
  exact tinc_nI (C := 7) (R := 11) (n := 77) g x ha hk (by omega) (by omega) (by omega) (by omega)
theorem tg7 {g : Nat → Int32} {p c : Int32} (a k : Nat) (hp : p = nI a) (ha : a < 11) (hc : c = nI k) (hk : k < 7) : tget 7 11 77 g p c = g (a * 7 + k) := by
  rw [hp, hc]
  exact tget_nI (C := 7) (R := 11) (n := 77) g ha hk (by omega) (by omega) (by omega) (by omega)
theorem tiP {g : Nat → Int32} {c x : Int32} {r k : Nat} (hr : 1 ≤ r) (hr2 : r ≤ 513) (hc : c = nI k) (hk : k < 8) : tinc 8 (nI r) 4104 g (nI (r - 1)) c x = incr g ((r - 1) * 8 + k) x := by
  rw [hc]
  exact tinc_nI (C := 8) (R := r) (n := 4104) g x (by omega) hk (by omega) (by omega) (by omega) (by omega)
theorem tsP {g : Nat → Int32} {c v : Int32} {r q k : Nat} (hq : q < r) (hr2 : r ≤ 513) (hc : c = nI k) (hk : k < 8) : tset 8 (nI r) 4104 g (nI q) c v = upd g (q * 8 + k) v := by
  rw [hc]
  exact tset_nI (C := 8) (R := r) (n := 4104) g v hq hk (by omega) (by omega) (by omega) (by omega)
theorem tsF {g : Nat → Int32} {c v : Int32} {r q k : Nat} (hq : q < r) (hr2 : r ≤ 11) (hc : c = nI k) (hk : k < 3) : tset 3 (nI r) 33 g (nI q) c v = upd g (q * 3 + k) v := by
  rw [hc]
  exact tset_nI (C := 3) (R := r) (n := 33) g v hq hk (by omega) (by omega) (by omega) (by omega)
