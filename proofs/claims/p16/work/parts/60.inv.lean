/-! p2, p5: both sides are safe, and have as many works -/
def Iv0 (i : Nat) (M N : Mem) : Prop := ∃ n, CI n M ∧ MI n (20 * (i : Int)) N
theorem m0_w {w : Nat} {j : Nat} : M0 (16 + 7 * w) j = if j = 0 then nI w else if j = 4 then -1 else 0 := by
  unfold M0
  rw [if_neg (by omega), if_pos (by omega), show (16 + 7 * w - 16) / 7 = w by omega]
theorem m0_1 {w : Nat} : M0 (16 + 7 * w + 1) 0 = 4 := by
  unfold M0
  rw [if_neg (by omega), if_neg (by omega), if_pos (by omega), if_pos rfl]
theorem m0_4 {w : Nat} : M0 (16 + 7 * w + 4) 0 = 2 := by
  unfold M0
  rw [if_neg (by omega), if_neg (by omega), if_neg (by omega), if_pos (by omega), if_pos rfl]
theorem m0_o {w z j : Nat} (hz : z = 2 ∨ z = 3 ∨ z = 5 ∨ z = 6) : M0 (16 + 7 * w + z) j = 0 := by
  unfold M0
  rw [if_neg (by omega), if_neg (by omega), if_neg (by omega), if_neg (by omega)]
theorem ci_0 : CI 0 M0 := by
  refine ⟨by decide, fun k j => ⟨?_, ?_, ?_, ?_, ?_, ?_, ?_, ?_, ?_, ?_, ?_⟩⟩
  · rintro rfl rfl; decide
  · rintro rfl rfl; decide
  · rintro rfl rfl; decide
  · rintro rfl; exact ⟨show 0 ≤ (0 : Int32).toInt by decide, show (0 : Int32).toInt ≤ 12 by decide⟩
  · rintro rfl; exact ⟨show 0 ≤ (0 : Int32).toInt by decide, show (0 : Int32).toInt ≤ 300 by decide⟩
  · rintro rfl; exact ⟨show -1 ≤ (-1 : Int32).toInt by decide, show (-1 : Int32).toInt ≤ 11 by decide⟩
  · rintro w hw rfl rfl
    rw [m0_w, if_pos rfl]
    exact ti_nI (by omega)
  · rintro w rfl rfl; rw [m0_1]; decide
  · rintro w rfl rfl; rw [m0_4]; decide
  · rintro w rfl; rw [m0_o (by decide)]; decide
  · rintro w rfl; rw [m0_o (by decide)]; decide
theorem sm_z : ∀ m : Nat, sm (fun _ => (0 : Int)) m = 0 := by
  intro m
  induction m with
  | zero => rfl
  | succ m ih => rw [sm, ih]; rfl
theorem mi_00 : MI 0 (20 * ((0 : Nat) : Int)) (fun _ _ => 0) := by
  have z : (0 : Int32).toInt = 0 := by decide
  refine ⟨⟨by decide, fun k j => ?_⟩, ⟨fun w hw => absurd hw (by omega), fun w _ _ => z, fun w hw => ?_⟩, ?_⟩
  · refine ⟨?_, ?_, ?_, ?_, ?_, ?_, ?_, ?_, ?_, ?_, ?_, ?_, ?_, ?_, ?_, ?_⟩ <;> intros <;> rw [z] <;> omega
  · show ((cw (nI w) [] : Nat) : Int) ≤ _
    rw [z, if_pos rfl]
    exact Int.le_refl 0
  · unfold La
    rw [z, sm_c (f := fun _ => 0) 144 (fun i _ => z), sm_z]
    omega
theorem iv_0 : Iv0 0 M0 (fun _ _ => 0) := ⟨0, ci_0, mi_00⟩
