section CY
variable {n : Nat} {M : Mem} {w c : Nat} {p1 p2 : Int32}
theorem e_change (hM : CI n M) : Ok (F_X3_change M p1 p2) (fun M' => CI n M' ∧ (∀ k j, k ≠ 3 → M' k j = M k j) ∧ ∀ j, M' 3 j = if j < 10 ∧ M 5 j = p1 then M 3 j * 3 + p1 + 10 * p2 else M 3 j) := by
  refine ok_and (s_change hM) ?_
  unfold F_X3_change
  have key : ∀ (f : Nat) (Y : Mem) (v : Int32), (∀ k j, k ≠ 3 → Y k j = M k j) → (∀ j : Nat, Y 3 j = if (j : Int) < v.toInt ∧ M 5 j = p1 then M 3 j * 3 + p1 + 10 * p2 else M 3 j) → 0 ≤ v.toInt → v.toInt ≤ 10 → 10 - v.toInt < f → Ok (L_X3_change_2 (fun M_1 v3_2 => some M_1) p1 p2 f Y v) (fun M' => (∀ k j, k ≠ 3 → M' k j = M k j) ∧ ∀ j, M' 3 j = if j < 10 ∧ M 5 j = p1 then M 3 j * 3 + p1 + 10 * p2 else M 3 j) := by
    intro f
    induction f with
    | zero => intro Y v y1 y2 v0 v1 v2; omega
    | succ f ih =>
      intro Y v y1 y2 v0 v1 v2
      rw [L_X3_change_2]
      refine ok_i (fun d => ok_s ⟨y1, fun j => ?_⟩) (fun d => ?_)
      · rw [ti_le, ti_n10] at d
        rw [y2 j]
        have e : ((j : Int) < v.toInt) ↔ j < 10 := by omega
        simp only [e]
      · rw [ti_le, ti_n10] at d
        have e1 := ti_inc (a := v) (by omega)
        have g : inb v 10 = true := ti_in v0 (by omega)
        have y5 : Y 5 v.toNatClampNeg = M 5 v.toNatClampNeg := y1 5 _ (by decide)
        have y3 : Y 3 v.toNatClampNeg = M 3 v.toNatClampNeg := by rw [y2, if_neg (by rw [ti_cl]; omega)]
        refine ok_g g (ok_i (fun e => ok_g g (ok_g g (ok_m (ih _ _ (fun k j hk => by rw [up2_k hk]; exact y1 k j hk) (fun j => ?_) (by omega) (by omega) (by omega))))) (fun e => ih _ _ y1 (fun j => ?_) (by omega) (by omega) (by omega)))
        · by_cases hj : j = v.toNatClampNeg
          · subst hj
            rw [up2_s, y3, if_pos ⟨by rw [ti_cl]; omega, by rw [← y5]; exact e⟩]
          · rw [up2_j hj, y2]
            rw [ti_cl] at hj
            have e9 : ((j : Int) < v.toInt) ↔ ((j : Int) < (v + 1).toInt) := by omega
            simp only [e9]
        · rw [y2]
          by_cases hj : j = v.toNatClampNeg
          · subst hj
            rw [y5] at e
            rw [if_neg (fun q => e q.2), if_neg (fun q => e q.2)]
          · rw [ti_cl] at hj
            have e9 : ((j : Int) < v.toInt) ↔ ((j : Int) < (v + 1).toInt) := by omega
            simp only [e9]
  exact key 4000 M 0 (fun _ _ _ => rfl) (fun j => by rw [ti_n0, if_neg (by omega)]) (by rw [ti_n0]; omega) (by rw [ti_n0]; omega) (by rw [ti_n0]; omega)
theorem e_restore (hM : CI n M) : Ok (F_X3_restore M p1) (fun M' => CI n M' ∧ (∀ k j, k ≠ 3 → M' k j = M k j) ∧ ∀ j, M' 3 j = if j < 10 ∧ M 5 j = p1 then M 4 j else M 3 j) := by
  refine ok_and (s_restore hM) ?_
  unfold F_X3_restore
  have key : ∀ (f : Nat) (Y : Mem) (v : Int32), (∀ k j, k ≠ 3 → Y k j = M k j) → (∀ j : Nat, Y 3 j = if (j : Int) < v.toInt ∧ M 5 j = p1 then M 4 j else M 3 j) → 0 ≤ v.toInt → v.toInt ≤ 10 → 10 - v.toInt < f → Ok (L_X3_restore_2 (fun M_1 v2_2 => some M_1) p1 f Y v) (fun M' => (∀ k j, k ≠ 3 → M' k j = M k j) ∧ ∀ j, M' 3 j = if j < 10 ∧ M 5 j = p1 then M 4 j else M 3 j) := by
    intro f
    induction f with
    | zero => intro Y v y1 y2 v0 v1 v2; omega
    | succ f ih =>
      intro Y v y1 y2 v0 v1 v2
      rw [L_X3_restore_2]
      refine ok_i (fun d => ok_s ⟨y1, fun j => ?_⟩) (fun d => ?_)
      · rw [ti_le, ti_n10] at d
        rw [y2 j]
        have e : ((j : Int) < v.toInt) ↔ j < 10 := by omega
        simp only [e]
      · rw [ti_le, ti_n10] at d
        have e1 := ti_inc (a := v) (by omega)
        have g : inb v 10 = true := ti_in v0 (by omega)
        have y5 : Y 5 v.toNatClampNeg = M 5 v.toNatClampNeg := y1 5 _ (by decide)
        have y4 : Y 4 v.toNatClampNeg = M 4 v.toNatClampNeg := y1 4 _ (by decide)
        refine ok_g g (ok_i (fun e => ok_g g (ok_g g (ok_m (ih _ _ (fun k j hk => by rw [up2_k hk]; exact y1 k j hk) (fun j => ?_) (by omega) (by omega) (by omega))))) (fun e => ih _ _ y1 (fun j => ?_) (by omega) (by omega) (by omega)))
        · by_cases hj : j = v.toNatClampNeg
          · subst hj
            rw [up2_s, y4, if_pos ⟨by rw [ti_cl]; omega, by rw [← y5]; exact e⟩]
          · rw [up2_j hj, y2]
            rw [ti_cl] at hj
            have e9 : ((j : Int) < v.toInt) ↔ ((j : Int) < (v + 1).toInt) := by omega
            simp only [e9]
        · rw [y2]
          by_cases hj : j = v.toNatClampNeg
          · subst hj
            rw [y5] at e
            rw [if_neg (fun q => e q.2), if_neg (fun q => e q.2)]
          · rw [ti_cl] at hj
            have e9 : ((j : Int) < v.toInt) ↔ ((j : Int) < (v + 1).toInt) := by omega
            simp only [e9]
  exact key 4000 M 0 (fun _ _ _ => rfl) (fun j => by rw [ti_n0, if_neg (by omega)]) (by rw [ti_n0]; omega) (by rw [ti_n0]; omega) (by rw [ti_n0]; omega)
/-- what release leaves -/
def ReC (v : Int32) (M M' : Mem) : Prop := (∀ c, c < 10 → rl M' c = (rl M c).filter (fun x => decide (¬ x = v))) ∧ (∀ j, M' 5 j = if j < 10 ∧ M 5 j = v then -1 else M 5 j) ∧ ∀ k j, k ≠ 5 → k ≠ 7 → k ≠ 8 → M' k j = M k j
theorem e_release (hM : CI n M) (hnd : ∀ c, c < 10 → (rl M c).Nodup) : Ok (F_X3_release M p1) (fun M' => CI n M' ∧ ReC p1 M M') := by
  refine ok_and (s_release hM) ?_
  unfold F_X3_release
  have key : ∀ (f : Nat) (Y : Mem) (v : Int32), CI n Y → (∀ c : Nat, c < 10 → rl Y c = if (c : Int) < v.toInt then (rl M c).filter (fun x => decide (¬ x = p1)) else rl M c) → (∀ j : Nat, Y 5 j = if (j : Int) < v.toInt ∧ M 5 j = p1 then -1 else M 5 j) → (∀ k j, k ≠ 5 → k ≠ 7 → k ≠ 8 → Y k j = M k j) → 0 ≤ v.toInt → v.toInt ≤ 10 → 10 - v.toInt < f → Ok (L_X3_release_2 (fun M_1 v2_2 => some M_1) p1 f Y v) (ReC p1 M) := by
    intro f
    induction f with
    | zero => intro Y v _ y1 y2 y3 v0 v1 v2; omega
    | succ f ih =>
      intro Y v hY y1 y2 y3 v0 v1 v2
      rw [L_X3_release_2]
      refine ok_i (fun d => ok_s ⟨fun c hc => ?_, fun j => ?_, y3⟩) (fun d => ?_)
      · rw [ti_le, ti_n10] at d
        rw [y1 c hc, if_pos (by omega)]
      · rw [ti_le, ti_n10] at d
        rw [y2 j]
        have e : ((j : Int) < v.toInt) ↔ j < 10 := by omega
        simp only [e]
      · rw [ti_le, ti_n10] at d
        have e1 := ti_inc (a := v) (by omega)
        have g : inb v 10 = true := ti_in v0 (by omega)
        have ev : v.toNatClampNeg = v.toInt.toNat := ti_cl
        have hv10 : v.toNatClampNeg < 10 := by omega
        have yv := y1 v.toNatClampNeg hv10
        rw [if_neg (by omega)] at yv
        refine ok_b (e_remove hY (cl_nat v0).symm hv10 (by rw [yv]; exact hnd _ hv10)) (fun Z ⟨hZ, z1, z2, z3⟩ => ?_)
        have zr : ∀ Z' : Mem, (∀ j, Z' 7 j = Z 7 j) → (∀ j, Z' 8 j = Z 8 j) → ∀ c : Nat, c < 10 → rl Z' c = if (c : Int) < (v + 1).toInt then (rl M c).filter (fun x => decide (¬ x = p1)) else rl M c := by
          intro Z' q7 q8 c hc
          rw [rl_c (M := Z) (q7 c) (fun i _ => q8 _)]
          by_cases hcv : c = v.toNatClampNeg
          · rw [hcv, z1, yv, if_pos (by omega)]
          · rw [z2 c hc hcv, y1 c hc]
            have e9 : ((c : Int) < v.toInt) ↔ ((c : Int) < (v + 1).toInt) := by omega
            simp only [e9]
        have z5 : ∀ j, Z 5 j = Y 5 j := fun j => z3 5 j (by decide) (by decide)
        have y5 : Y 5 v.toNatClampNeg = M 5 v.toNatClampNeg := by rw [y2, if_neg (by omega)]
        refine ok_g g (ok_i (fun e => ok_g g (ok_m (ih _ _ (hZ.up (tc_5 (by rw [ti_m1]; omega) (by rw [ti_m1]; omega))) (zr _ (fun j => up2_k (by decide)) (fun j => up2_k (by decide))) (fun j => ?_) (fun k j k5 k7 k8 => by rw [up2_k k5, z3 k j k7 k8]; exact y3 k j k5 k7 k8) (by omega) (by omega) (by omega)))) (fun e => ih _ _ hZ (zr _ (fun j => rfl) (fun j => rfl)) (fun j => ?_) (fun k j k5 k7 k8 => by rw [z3 k j k7 k8]; exact y3 k j k5 k7 k8) (by omega) (by omega) (by omega)))
        · by_cases hj : j = v.toNatClampNeg
          · subst hj
            rw [up2_s, if_pos ⟨by omega, by rw [← y5, ← z5]; exact e⟩]
          · rw [up2_j hj, z5, y2]
            have e9 : ((j : Int) < v.toInt) ↔ ((j : Int) < (v + 1).toInt) := by omega
            simp only [e9]
        · rw [z5, y2]
          by_cases hj : j = v.toNatClampNeg
          · subst hj
            rw [z5, y5] at e
            rw [if_neg (fun q => e q.2), if_neg (fun q => e q.2)]
          · have e9 : ((j : Int) < v.toInt) ↔ ((j : Int) < (v + 1).toInt) := by omega
            simp only [e9]
  exact key 4000 M 0 hM (fun c _ => by rw [ti_n0, if_neg (by omega)]) (fun j => by rw [ti_n0, if_neg (by omega)]) (fun _ _ _ _ _ => rfl) (by rw [ti_n0]; omega) (by rw [ti_n0]; omega) (by rw [ti_n0]; omega)
theorem CI.nm (h : CI n M) (hw : w < 12) : M (16 + 7 * w) 0 = nI w := by
  obtain ⟨i, h1, h2, h3⟩ := h.num (wok.of hw)
  have : i = w := by omega
  subst this
  exact of_nI h3
/-- what undo leaves -/
def UnC (w : Nat) (to : Int32) (M M' : Mem) : Prop := ∃ M1 M2, (∀ k j, k ≠ 3 → M1 k j = M k j) ∧ (∀ j, M1 3 j = if j < 10 ∧ M 5 j = nI w then M 4 j else M 3 j) ∧ ReC (nI w) M1 M2 ∧ M' = up2 M2 (16 + 7 * w) 5 to
theorem e_undo (hM : CI n M) (hw : w < 12) (hnd : ∀ c, c < 10 → (rl M c).Nodup) : Ok (F_X5_undo M (16 + 7 * w) p2) (fun M' => CI n M' ∧ UnC w p2 M M') := by
  refine ok_and (s_undo hM (wok.of hw)) ?_
  unfold F_X5_undo
  rw [hM.nm hw]
  refine ok_b (e_restore hM) (fun M1 ⟨h1, a1, a2⟩ => ?_)
  rw [h1.nm hw]
  refine ok_b (e_release h1 (fun c hc => ?_)) (fun M2 ⟨h2, b⟩ => ok_m (ok_s ⟨M1, M2, a1, a2, b, rfl⟩))
  rw [rl_c (M := M) (a1 7 c (by decide)) (fun i _ => a1 8 _ (by decide))]
  exact hnd c hc
end CY
