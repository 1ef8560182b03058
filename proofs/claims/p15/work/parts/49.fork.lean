section FK
theorem lv_fork {M N2 : Mem} {v r b : Int32} {u : Nat → Int64} (h : (r = 0 ∧ (¬ v < 0 ∧ ¬ 10 ≤ v) ∧ u 0 = (M 3 v.toNatClampNeg).toInt64) ∨ (r = 1 ∧ (v < 0 ∨ 10 ≤ v))) (k : (0 ≤ v.toInt ∧ v.toInt < 10 ∧ N2 0 0 = 0 ∧ b = M 3 v.toNatClampNeg) ∨ ((v.toInt < 0 ∨ 10 ≤ v.toInt) ∧ N2 0 0 = 1 ∧ b = 0)) : (r = 0 ∧ N2 0 0 = 0 ∧ u 0 = b.toInt64) ∨ (r = 1 ∧ N2 0 0 = 1) := by
  rw [ti_lt, ti_le, ti_n0, ti_n10] at h
  rcases h with ⟨h1, h2, h3⟩ | ⟨h1, h2⟩
  · rcases k with ⟨k1, k2, k3, k4⟩ | ⟨k1, k2, k3⟩
    · exact Or.inl ⟨h1, k3, by rw [h3, k4]⟩
    · omega
  · rcases k with ⟨k1, k2, k3, k4⟩ | ⟨k1, k2, k3⟩
    · omega
    · exact Or.inr ⟨h1, k2⟩
theorem lg_self {x : Int64} : lg_cmp x x = 0 := (lg_cmp_eq x x).mpr rfl
end FK
