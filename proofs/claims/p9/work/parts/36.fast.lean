theorem nm_0 {x : Nat} : x ∉ ([] : List Nat) := fun q => by cases q
theorem nm_c {x a : Nat} {l : List Nat} (h : x ≠ a) (t : x ∉ l) : x ∉ a :: l := fun q => (List.mem_cons.mp q).elim h t
theorem hAb {A : Nat → Nat} {b i j : Nat} (h : ∀ i j : Nat, i ≠ j → A i ≠ A j) (e : Nat.beq i j = false) : A (b + i) ≠ A (b + j) := h _ _ (fun q => Nat.ne_of_beq_eq_false e (Nat.add_left_cancel q))
theorem hbq (c : Nat) : Nat.beq c c = true := by
  cases q : Nat.beq c c with
  | true => rfl
  | false => exact absurd rfl (Nat.ne_of_beq_eq_false q)
def zdN : va_E → va_E → Bool
  | .inr (c, _), .inr (d, _) => Nat.beq c d
  | .inl (_, n, _), .inl (_, m, _) => Nat.beq n m
  | _, _ => false
theorem zdN_self (e : va_E) : zdN e e = true := by
  match e with
  | .inr (c, _) => exact hbq c
  | .inl (_, n, _) => exact hbq n
theorem hneD {f : Hf} {a b : Nat} {e1 e2 : va_E} (h1 : f a = some e1) (h2 : f b = some e2) (h : zdN e1 e2 = false) : a ≠ b := hne h1 h2 (fun q => by subst q; rw [zdN_self] at h; cases h)
theorem hupN {f f1 : Hf} {a b : Nat} {e : Option va_E} {x : va_E} (hf : f1 = va_up f a e) (hn : f a = none) (h : f b = some x) : f1 b = some x := hup hf (hneN h hn) h
theorem hupD {f f1 : Hf} {a b : Nat} {e : Option va_E} {e1 e2 : va_E} (hf : f1 = va_up f a e) (ha : f a = some e1) (h : f b = some e2) (d : zdN e2 e1 = false) : f1 b = some e2 := hup hf (hneD h ha d) h
theorem hupF {f f1 u : Hf} {a b : Nat} {e : Option va_E} {x : va_E} (fr : ∀ (a9 : Nat) (e9 : va_E), a9 ≠ a → f1 a9 = some e9 → u a9 = some e9) (hf : f1 = va_up f a e) (hn : f a = none) (h : f b = some x) : u b = some x := fr _ _ (hneN h hn) (hupN hf hn h)
