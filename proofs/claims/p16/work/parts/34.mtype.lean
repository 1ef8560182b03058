/-! the reference is safe: what each place of its memory may hold, n works -/
def Tm (n k j : Nat) (v : Int32) : Prop :=
  (k = 0 → j = 1 → v.toInt = n) ∧ (k = 0 → j = 23 → 0 ≤ v.toInt ∧ v.toInt ≤ 1200) ∧ (k = 0 → j = 27 → 0 ≤ v.toInt ∧ v.toInt ≤ 300) ∧ (k = 0 → j = 22 → 0 ≤ v.toInt ∧ v.toInt ≤ 100) ∧ (k = 1 → (0 ≤ v.toInt ∧ v.toInt ≤ 10) ∧ (j < n → 1 ≤ v.toInt)) ∧ (k = 4 → 0 ≤ v.toInt ∧ v.toInt ≤ 10) ∧ (k = 5 → 0 ≤ v.toInt ∧ v.toInt ≤ 4) ∧ (k = 12 → 0 ≤ v.toInt ∧ v.toInt ≤ 4) ∧ (k = 13 → (0 ≤ v.toInt ∧ v.toInt ≤ 9) ∨ (100 ≤ v.toInt ∧ v.toInt ≤ 111)) ∧ (k = 14 → 0 ≤ v.toInt ∧ v.toInt ≤ 2) ∧ (k = 15 → 0 ≤ v.toInt ∧ v.toInt ≤ 11) ∧ (k = 16 → 0 ≤ v.toInt ∧ v.toInt ≤ n) ∧ (k = 10 → 0 ≤ v.toInt ∧ v.toInt ≤ 10) ∧ (k = 21 → 0 ≤ v.toInt ∧ v.toInt ≤ 9) ∧ (k = 19 → 0 ≤ v.toInt) ∧ (k = 20 → 0 ≤ v.toInt ∧ v.toInt ≤ 11)
def MT (n : Nat) (N : Mem) : Prop := n ≤ 12 ∧ ∀ k j, Tm n k j (N k j)
section MT
variable {n : Nat} {N : Mem} {k j : Nat} {v : Int32}
theorem MT.up (h : MT n N) (t : Tm n k j v) : MT n (up2 N k j v) := by
  refine ⟨h.1, fun a b => ?_⟩
  rw [up2_e]
  by_cases c : a = k ∧ b = j
  · rw [if_pos c, c.1, c.2]; exact t
  · rw [if_neg c]; exact h.2 a b
theorem MT.wk (h : MT n N) : (N 0 1).toInt = n := (h.2 0 1).1 rfl rfl
theorem MT.ch (h : MT n N) : 0 ≤ (N 0 23).toInt ∧ (N 0 23).toInt ≤ 1200 := (h.2 0 23).2.1 rfl rfl
theorem MT.lg (h : MT n N) : 0 ≤ (N 0 27).toInt ∧ (N 0 27).toInt ≤ 300 := (h.2 0 27).2.2.1 rfl rfl
theorem MT.lo (h : MT n N) : 0 ≤ (N 0 22).toInt ∧ (N 0 22).toInt ≤ 100 := (h.2 0 22).2.2.2.1 rfl rfl
theorem MT.st (h : MT n N) : (0 ≤ (N 1 j).toInt ∧ (N 1 j).toInt ≤ 10) ∧ (j < n → 1 ≤ (N 1 j).toInt) := (h.2 1 j).2.2.2.2.1 rfl
theorem MT.sp (h : MT n N) : 0 ≤ (N 4 j).toInt ∧ (N 4 j).toInt ≤ 10 := (h.2 4 j).2.2.2.2.2.1 rfl
theorem MT.gt (h : MT n N) : 0 ≤ (N 5 j).toInt ∧ (N 5 j).toInt ≤ 4 := (h.2 5 j).2.2.2.2.2.2.1 rfl
theorem MT.wc (h : MT n N) : 0 ≤ (N 12 j).toInt ∧ (N 12 j).toInt ≤ 4 := (h.2 12 j).2.2.2.2.2.2.2.1 rfl
theorem MT.wt (h : MT n N) : (0 ≤ (N 13 j).toInt ∧ (N 13 j).toInt ≤ 9) ∨ (100 ≤ (N 13 j).toInt ∧ (N 13 j).toInt ≤ 111) := (h.2 13 j).2.2.2.2.2.2.2.2.1 rfl
theorem MT.sc (h : MT n N) : 0 ≤ (N 14 j).toInt ∧ (N 14 j).toInt ≤ 2 := (h.2 14 j).2.2.2.2.2.2.2.2.2.1 rfl
theorem MT.sd (h : MT n N) : 0 ≤ (N 15 j).toInt ∧ (N 15 j).toInt ≤ 11 := (h.2 15 j).2.2.2.2.2.2.2.2.2.2.1 rfl
theorem MT.ow (h : MT n N) : 0 ≤ (N 16 j).toInt ∧ (N 16 j).toInt ≤ n := (h.2 16 j).2.2.2.2.2.2.2.2.2.2.2.1 rfl
theorem MT.wf (h : MT n N) : 0 ≤ (N 10 j).toInt ∧ (N 10 j).toInt ≤ 10 := (h.2 10 j).2.2.2.2.2.2.2.2.2.2.2.2.1 rfl
theorem MT.cd (h : MT n N) : 0 ≤ (N 21 j).toInt ∧ (N 21 j).toInt ≤ 9 := (h.2 21 j).2.2.2.2.2.2.2.2.2.2.2.2.2.1 rfl
theorem MT.ls (h : MT n N) : 0 ≤ (N 19 j).toInt := (h.2 19 j).2.2.2.2.2.2.2.2.2.2.2.2.2.2.1 rfl
theorem MT.cb (h : MT n N) : 0 ≤ (N 20 j).toInt ∧ (N 20 j).toInt ≤ 11 := (h.2 20 j).2.2.2.2.2.2.2.2.2.2.2.2.2.2.2 rfl
theorem tm_f (hk : k = 2 ∨ k = 3 ∨ k = 6 ∨ k = 7 ∨ k = 8 ∨ k = 9 ∨ k = 11 ∨ k = 17 ∨ k = 18 ∨ k = 22 ∨ k = 23) : Tm n k j v := by
  refine ⟨?_, ?_, ?_, ?_, ?_, ?_, ?_, ?_, ?_, ?_, ?_, ?_, ?_, ?_, ?_, ?_⟩ <;> intros <;> omega
theorem tm_wk (h : v.toInt = n) : Tm n 0 1 v := by
  refine ⟨?_, ?_, ?_, ?_, ?_, ?_, ?_, ?_, ?_, ?_, ?_, ?_, ?_, ?_, ?_, ?_⟩ <;> intros <;> omega
theorem tm_ch (h : 0 ≤ v.toInt ∧ v.toInt ≤ 1200) : Tm n 0 23 v := by
  refine ⟨?_, ?_, ?_, ?_, ?_, ?_, ?_, ?_, ?_, ?_, ?_, ?_, ?_, ?_, ?_, ?_⟩ <;> intros <;> omega
theorem tm_lg (h : 0 ≤ v.toInt ∧ v.toInt ≤ 300) : Tm n 0 27 v := by
  refine ⟨?_, ?_, ?_, ?_, ?_, ?_, ?_, ?_, ?_, ?_, ?_, ?_, ?_, ?_, ?_, ?_⟩ <;> intros <;> omega
theorem tm_lo (h : 0 ≤ v.toInt ∧ v.toInt ≤ 100) : Tm n 0 22 v := by
  refine ⟨?_, ?_, ?_, ?_, ?_, ?_, ?_, ?_, ?_, ?_, ?_, ?_, ?_, ?_, ?_, ?_⟩ <;> intros <;> omega
theorem tm_st (h : (0 ≤ v.toInt ∧ v.toInt ≤ 10) ∧ (j < n → 1 ≤ v.toInt)) : Tm n 1 j v := by
  refine ⟨?_, ?_, ?_, ?_, ?_, ?_, ?_, ?_, ?_, ?_, ?_, ?_, ?_, ?_, ?_, ?_⟩ <;> intros <;> omega
theorem tm_sp (h : 0 ≤ v.toInt ∧ v.toInt ≤ 10) : Tm n 4 j v := by
  refine ⟨?_, ?_, ?_, ?_, ?_, ?_, ?_, ?_, ?_, ?_, ?_, ?_, ?_, ?_, ?_, ?_⟩ <;> intros <;> omega
theorem tm_gt (h : 0 ≤ v.toInt ∧ v.toInt ≤ 4) : Tm n 5 j v := by
  refine ⟨?_, ?_, ?_, ?_, ?_, ?_, ?_, ?_, ?_, ?_, ?_, ?_, ?_, ?_, ?_, ?_⟩ <;> intros <;> omega
theorem tm_wc (h : 0 ≤ v.toInt ∧ v.toInt ≤ 4) : Tm n 12 j v := by
  refine ⟨?_, ?_, ?_, ?_, ?_, ?_, ?_, ?_, ?_, ?_, ?_, ?_, ?_, ?_, ?_, ?_⟩ <;> intros <;> omega
theorem tm_wt (h : (0 ≤ v.toInt ∧ v.toInt ≤ 9) ∨ (100 ≤ v.toInt ∧ v.toInt ≤ 111)) : Tm n 13 j v := by
  refine ⟨?_, ?_, ?_, ?_, ?_, ?_, ?_, ?_, ?_, ?_, ?_, ?_, ?_, ?_, ?_, ?_⟩ <;> intros <;> omega
theorem tm_sc (h : 0 ≤ v.toInt ∧ v.toInt ≤ 2) : Tm n 14 j v := by
  refine ⟨?_, ?_, ?_, ?_, ?_, ?_, ?_, ?_, ?_, ?_, ?_, ?_, ?_, ?_, ?_, ?_⟩ <;> intros <;> omega
theorem tm_sd (h : 0 ≤ v.toInt ∧ v.toInt ≤ 11) : Tm n 15 j v := by
  refine ⟨?_, ?_, ?_, ?_, ?_, ?_, ?_, ?_, ?_, ?_, ?_, ?_, ?_, ?_, ?_, ?_⟩ <;> intros <;> omega
theorem tm_ow (h : 0 ≤ v.toInt ∧ v.toInt ≤ n) : Tm n 16 j v := by
  refine ⟨?_, ?_, ?_, ?_, ?_, ?_, ?_, ?_, ?_, ?_, ?_, ?_, ?_, ?_, ?_, ?_⟩ <;> intros <;> omega
theorem tm_wf (h : 0 ≤ v.toInt ∧ v.toInt ≤ 10) : Tm n 10 j v := by
  refine ⟨?_, ?_, ?_, ?_, ?_, ?_, ?_, ?_, ?_, ?_, ?_, ?_, ?_, ?_, ?_, ?_⟩ <;> intros <;> omega
theorem tm_cd (h : 0 ≤ v.toInt ∧ v.toInt ≤ 9) : Tm n 21 j v := by
  refine ⟨?_, ?_, ?_, ?_, ?_, ?_, ?_, ?_, ?_, ?_, ?_, ?_, ?_, ?_, ?_, ?_⟩ <;> intros <;> omega
theorem tm_ls (h : 0 ≤ v.toInt) : Tm n 19 j v := by
  refine ⟨?_, ?_, ?_, ?_, ?_, ?_, ?_, ?_, ?_, ?_, ?_, ?_, ?_, ?_, ?_, ?_⟩ <;> intros <;> omega
theorem tm_cb (h : 0 ≤ v.toInt ∧ v.toInt ≤ 11) : Tm n 20 j v := by
  refine ⟨?_, ?_, ?_, ?_, ?_, ?_, ?_, ?_, ?_, ?_, ?_, ?_, ?_, ?_, ?_, ?_⟩ <;> intros <;> omega
theorem tm_z (hj : j = 0 ∨ j = 13) : Tm n 0 j v := by
  refine ⟨?_, ?_, ?_, ?_, ?_, ?_, ?_, ?_, ?_, ?_, ?_, ?_, ?_, ?_, ?_, ?_⟩ <;> intros <;> omega
end MT
