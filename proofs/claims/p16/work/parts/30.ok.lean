/-! what a function in Option gives -/
def Ok {α : Type} (x : Option α) (P : α → Prop) : Prop := ∃ a, x = some a ∧ P a
section OK
variable {α β : Type} {x y : Option α} {P Q : α → Prop} {f : α → Option β} {R : β → Prop} {a : α} {b : Bool} {c : Prop}
theorem ok_s (h : P a) : Ok (some a) P := ⟨a, rfl, h⟩
theorem ok_b (h : Ok x P) (g : ∀ a, P a → Ok (f a) R) : Ok (bi x f) R := by
  obtain ⟨a, rfl, h⟩ := h
  exact g a h
theorem ok_g (hb : b = true) (h : Ok x P) : Ok (gd b x) P := by subst hb; exact h
theorem ok_m {M : Mem} {g : Mem → Option β} (h : Ok (g M) R) : Ok (bm M g) R := h
theorem ok_i [Decidable c] (h1 : c → Ok x P) (h2 : ¬ c → Ok y P) : Ok (if c then x else y) P := by
  by_cases hc : c
  · rw [if_pos hc]; exact h1 hc
  · rw [if_neg hc]; exact h2 hc
theorem ok_w (h : Ok x P) (g : ∀ a, P a → Q a) : Ok x Q := by
  obtain ⟨a, e, h⟩ := h
  exact ⟨a, e, g a h⟩
end OK
/-! ints -/
theorem ti_le {a b : Int32} : a ≤ b ↔ a.toInt ≤ b.toInt := Int32.le_iff_toInt_le
theorem ti_lt {a b : Int32} : a < b ↔ a.toInt < b.toInt := Int32.lt_iff_toInt_lt
theorem ti_eq {a b : Int32} : a = b ↔ a.toInt = b.toInt := Int32.toInt_inj.symm
theorem ti_add {a b : Int32} (h1 : -2147483648 ≤ a.toInt + b.toInt) (h2 : a.toInt + b.toInt ≤ 2147483647) : (a + b).toInt = a.toInt + b.toInt := by
  rw [Int32.toInt_add]; exact Int.bmod_eq_of_le (by omega) (by omega)
theorem ti_sub {a b : Int32} (h1 : -2147483648 ≤ a.toInt - b.toInt) (h2 : a.toInt - b.toInt ≤ 2147483647) : (a - b).toInt = a.toInt - b.toInt := by
  rw [Int32.toInt_sub]; exact Int.bmod_eq_of_le (by omega) (by omega)
theorem ti_mul {a b : Int32} (h1 : -2147483648 ≤ a.toInt * b.toInt) (h2 : a.toInt * b.toInt ≤ 2147483647) : (a * b).toInt = a.toInt * b.toInt := by
  rw [Int32.toInt_mul]; exact Int.bmod_eq_of_le (by omega) (by omega)
theorem ti_lo (a : Int32) : -2147483648 ≤ a.toInt := Int32.le_toInt a
theorem ti_hi (a : Int32) : a.toInt ≤ 2147483647 := Int32.toInt_le a
theorem ti_cl {a : Int32} : a.toNatClampNeg = a.toInt.toNat := rfl
theorem ti_in {a : Int32} {n : Nat} (h0 : 0 ≤ a.toInt) (h1 : a.toInt < n) : inb a n = true := by
  unfold inb; rw [decide_eq_true h0, decide_eq_true h1]; rfl
theorem ti_n0 : (0 : Int32).toInt = 0 := by decide
theorem ti_n1 : (1 : Int32).toInt = 1 := by decide
theorem ti_n2 : (2 : Int32).toInt = 2 := by decide
theorem ti_n3 : (3 : Int32).toInt = 3 := by decide
theorem ti_n4 : (4 : Int32).toInt = 4 := by decide
theorem ti_n9 : (9 : Int32).toInt = 9 := by decide
theorem ti_n10 : (10 : Int32).toInt = 10 := by decide
theorem ti_n12 : (12 : Int32).toInt = 12 := by decide
theorem ti_n100 : (100 : Int32).toInt = 100 := by decide
theorem ti_n300 : (300 : Int32).toInt = 300 := by decide
theorem ti_m1 : (-1 : Int32).toInt = -1 := by decide
theorem ti_mm : (1000000 : Int32).toInt = 1000000 := by decide
theorem ti_inc {a : Int32} (h : a.toInt ≤ 2147483646) : (a + 1).toInt = a.toInt + 1 := by
  have := ti_lo a
  rw [ti_add (by rw [ti_n1]; omega) (by rw [ti_n1]; omega), ti_n1]
theorem ti_dec {a : Int32} (h : -2147483647 ≤ a.toInt) : (a - 1).toInt = a.toInt - 1 := by
  have := ti_hi a
  rw [ti_sub (by rw [ti_n1]; omega) (by rw [ti_n1]; omega), ti_n1]
theorem ti_dm {a : Int32} (h : -2147483647 ≤ a.toInt) : (a + (-1)).toInt = a.toInt - 1 := by
  have := ti_hi a
  rw [ti_add (by rw [ti_m1]; omega) (by rw [ti_m1]; omega), ti_m1]; omega
theorem ti_nI {n : Nat} (h : n < 2147483648) : (nI n).toInt = n := nI_toInt (by omega)
theorem up2_s {M : Mem} {k j : Nat} {v : Int32} : up2 M k j v k j = v := by
  unfold up2; rw [va_up_self]; exact upd_us
theorem up2_k {M : Mem} {k j a b : Nat} {v : Int32} (h : a ≠ k) : up2 M k j v a b = M a b := by
  unfold up2; rw [va_up_ne _ _ h]
theorem up2_j {M : Mem} {k j b : Nat} {v : Int32} (h : b ≠ j) : up2 M k j v k b = M k b := by
  unfold up2; rw [va_up_self]; exact upd_un h
theorem up2_e {M : Mem} {k j a b : Nat} {v : Int32} : up2 M k j v a b = if a = k ∧ b = j then v else M a b := by
  by_cases ha : a = k
  · subst ha
    by_cases hb : b = j
    · subst hb; rw [up2_s, if_pos ⟨rfl, rfl⟩]
    · rw [up2_j hb, if_neg (fun q => hb q.2)]
  · rw [up2_k ha, if_neg (fun q => ha q.1)]
