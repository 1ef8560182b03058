section RZ
theorem rr_0 : Rr 0 M0 (fun _ _ => 0) := by
  have z : (0 : Int32).toInt = 0 := by decide
  have hl : ∀ c, rl M0 c = [] := by
    intro c
    apply List.length_eq_zero_iff.mp
    rw [rl_len]
    show (0 : Int32).toInt.toNat = 0
    decide
  have hc : cL (fun _ _ => 0) = [] := by
    apply List.length_eq_zero_iff.mp
    unfold cL
    rw [cl_len]
    show (0 : Int32).toInt.toNat = 0
    decide
  refine ⟨fun w hw => ⟨fun h => absurd h (by omega), ?_, ?_, ?_, ?_, ?_, ?_, ?_⟩, fun w s hw hs => ⟨?_, ?_, fun j hj => ?_, fun j hj => ?_⟩, ⟨fun c hc => ⟨rfl, ?_⟩, fun k hk => ⟨rfl, rfl⟩, rfl, rfl, fun j hj => rfl⟩, fun c hc => ?_, ⟨fun e he => ?_, fun c w hc hw ho => ?_⟩, fun w hw hn => absurd z hn⟩
  · rw [m0_w]; rfl
  · rw [m0_w]; rfl
  · rw [m0_w]; rfl
  · rw [m0_w]; rfl
  · rw [m0_w]; rfl
  · rw [m0_w]; rfl
  · rw [m0_w]; rfl
  · rw [m0_o (by decide)]
  · rw [m0_o (by decide)]
  · rw [m0_o (by decide)]
    exact ⟨fun _ => rfl, fun h => absurd h (show ¬ 100 ≤ (0 : Int32).toInt by decide)⟩
  · rw [m0_o (by decide)]
  · show (-1 : Int32).toInt = (0 : Int32).toInt - 1
    decide
  · rw [hl]
    refine ⟨List.Pairwise.nil, fun v => ⟨fun h => absurd h (by simp), ?_⟩⟩
    rintro ⟨w, h, -⟩
    omega
  · rw [hc] at he
    exact absurd he (by simp)
  · rw [z] at ho
    omega
/-- the whole relation, between the calls -/
def Ivr (i : Nat) (M N : Mem) : Prop := ∃ n, Rs n (20 * (i : Int)) (130000 * (i : Int)) M N
theorem ivr_0 : Ivr 0 M0 (fun _ _ => 0) := by
  refine ⟨0, mi_00, ci_0, rr_0, fun w c hw hc e => ?_, ?_, ?_⟩
  · have z : (0 : Int32).toInt = 0 := by decide
    rw [z] at e
    omega
  · show 0 ≤ (0 : Int32).toInt
    decide
  · show (0 : Int32).toInt ≤ 130000 * ((0 : Nat) : Int)
    decide
end RZ
