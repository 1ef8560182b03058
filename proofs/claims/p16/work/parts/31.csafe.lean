/-! the class is safe: what each place of its memory may hold, n works -/
def Tc (n : Nat) (k j : Nat) (v : Int32) : Prop :=
  (k = 0 → j = 1 → v.toInt = n) ∧ (k = 6 → j = 0 → v.toInt = 12) ∧ (k = 13 → j = 0 → v.toInt = 300) ∧ (k = 7 → 0 ≤ v.toInt ∧ v.toInt ≤ 12) ∧ (k = 14 → 0 ≤ v.toInt ∧ v.toInt ≤ 300) ∧ (k = 5 → -1 ≤ v.toInt ∧ v.toInt ≤ 11) ∧ (∀ w : Nat, w < 12 → k = 16 + 7 * w → j = 0 → v.toInt = w) ∧ (∀ w : Nat, k = 16 + 7 * w + 1 → j = 0 → v.toInt = 4) ∧ (∀ w : Nat, k = 16 + 7 * w + 4 → j = 0 → v.toInt = 2) ∧ (∀ w : Nat, k = 16 + 7 * w + 2 → 0 ≤ v.toInt ∧ v.toInt ≤ 4) ∧ (∀ w : Nat, k = 16 + 7 * w + 5 → 0 ≤ v.toInt ∧ v.toInt ≤ 2)
def CI (n : Nat) (M : Mem) : Prop := n ≤ 12 ∧ ∀ k j, Tc n k j (M k j)
section CS
variable {n : Nat} {M : Mem} {k j r w : Nat} {v : Int32}
theorem CI.up (h : CI n M) (t : Tc n k j v) : CI n (up2 M k j v) := by
  refine ⟨h.1, fun a b => ?_⟩
  rw [up2_e]
  by_cases c : a = k ∧ b = j
  · rw [if_pos c, c.1, c.2]; exact t
  · rw [if_neg c]; exact h.2 a b
theorem tc_w (hw : wok w) (hj : j ≠ 0) : Tc n w j v := by
  obtain ⟨i, h1, rfl⟩ := hw
  refine ⟨?_, ?_, ?_, ?_, ?_, ?_, ?_, ?_, ?_, ?_, ?_⟩ <;> intros <;> omega
theorem tc_f (hk : k = 3 ∨ k = 4 ∨ k = 8 ∨ k = 9 ∨ k = 10 ∨ k = 11 ∨ k = 15) : Tc n k j v := by
  refine ⟨?_, ?_, ?_, ?_, ?_, ?_, ?_, ?_, ?_, ?_, ?_⟩ <;> intros <;> omega
theorem tc_5 (h0 : -1 ≤ v.toInt) (h1 : v.toInt ≤ 11) : Tc n 5 j v := by
  refine ⟨?_, ?_, ?_, ?_, ?_, ?_, ?_, ?_, ?_, ?_, ?_⟩ <;> intros <;> omega
/-- Rows at r: room for R, n9 rows -/
def RW (r R m : Nat) : Prop := ln (r + 1) = m ∧ ln (r + 2) = m * R ∧ 0 < R ∧ 0 < m ∧ m * R ≤ 300 ∧ ∀ n, (∀ v, Tc n r 0 v → v.toInt = R) ∧ (∀ j v, Tc n (r + 1) j v ↔ (0 ≤ v.toInt ∧ v.toInt ≤ R)) ∧ (∀ j v, Tc n (r + 2) j v)
theorem rw_6 : RW 6 12 10 := by
  refine ⟨by decide, by decide, by decide, by decide, by decide, fun n => ⟨fun v h => h.2.1 rfl rfl, fun j v => ⟨fun h => h.2.2.2.1 rfl, fun h => ?_⟩, fun j v => tc_f (by decide)⟩⟩
  refine ⟨?_, ?_, ?_, ?_, ?_, ?_, ?_, ?_, ?_, ?_, ?_⟩ <;> intros <;> omega
theorem rw_13 : RW 13 300 1 := by
  refine ⟨by decide, by decide, by decide, by decide, by decide, fun n => ⟨fun v h => h.2.2.1 rfl rfl, fun j v => ⟨fun h => h.2.2.2.2.1 rfl, fun h => ?_⟩, fun j v => tc_f (by decide)⟩⟩
  refine ⟨?_, ?_, ?_, ?_, ?_, ?_, ?_, ?_, ?_, ?_, ?_⟩ <;> intros <;> omega
theorem rw_w1 (hw : wok w) : RW (w + 1) 4 10 := by
  obtain ⟨i, h1, rfl⟩ := hw
  refine ⟨(ln_w i h1).1, (ln_w i h1).2.1, by decide, by decide, by decide, fun n => ⟨fun v h => h.2.2.2.2.2.2.2.1 i rfl rfl, fun j v => ⟨fun h => h.2.2.2.2.2.2.2.2.2.1 i rfl, fun h => ?_⟩, fun j v => ?_⟩⟩
  · refine ⟨?_, ?_, ?_, ?_, ?_, ?_, ?_, ?_, ?_, ?_, ?_⟩ <;> intros <;> omega
  · refine ⟨?_, ?_, ?_, ?_, ?_, ?_, ?_, ?_, ?_, ?_, ?_⟩ <;> intros <;> omega
theorem rw_w4 (hw : wok w) : RW (w + 4) 2 10 := by
  obtain ⟨i, h1, rfl⟩ := hw
  refine ⟨(ln_w i h1).2.2.1, (ln_w i h1).2.2.2, by decide, by decide, by decide, fun n => ⟨fun v h => h.2.2.2.2.2.2.2.2.1 i rfl rfl, fun j v => ⟨fun h => h.2.2.2.2.2.2.2.2.2.2 i rfl, fun h => ?_⟩, fun j v => ?_⟩⟩
  · refine ⟨?_, ?_, ?_, ?_, ?_, ?_, ?_, ?_, ?_, ?_, ?_⟩ <;> intros <;> omega
  · refine ⟨?_, ?_, ?_, ?_, ?_, ?_, ?_, ?_, ?_, ?_, ?_⟩ <;> intros <;> omega
theorem CI.num (h : CI n M) (hw : wok w) : ∃ i : Nat, i < 12 ∧ w = 16 + 7 * i ∧ (M w 0).toInt = i := by
  obtain ⟨i, h1, rfl⟩ := hw
  exact ⟨i, h1, rfl, (h.2 _ _).2.2.2.2.2.2.1 i h1 rfl rfl⟩
theorem CI.cnt (h : CI n M) : (M 0 1).toInt = n := (h.2 0 1).1 rfl rfl
theorem CI.hold (h : CI n M) : -1 ≤ (M 5 j).toInt ∧ (M 5 j).toInt ≤ 11 := (h.2 5 j).2.2.2.2.2.1 rfl
end CS
section CR
variable {n : Nat} {M : Mem} {r R m : Nat} {p1 p2 : Int32}
theorem rw_b (hr : RW r R m) : (m : Int) * (R : Int) ≤ 300 := by
  have h := hr.2.2.2.2.1
  have h2 : ((m * R : Nat) : Int) ≤ ((300 : Nat) : Int) := Int.ofNat_le.mpr h
  rw [Int.natCast_mul] at h2
  exact h2
/-- a place of a row -/
theorem rw_at (hr : RW r R m) (hM : CI n M) (h1 : 0 ≤ p1.toInt) (h2 : p1.toInt < m) (i : Int32) (h3 : 0 ≤ i.toInt) (h4 : i.toInt < R) : ((p1 * (M r 0)) + i).toInt = p1.toInt * R + i.toInt ∧ p1.toInt * R + i.toInt < m * R ∧ 0 ≤ p1.toInt * R + i.toInt := by
  have hb9 := rw_b hr
  obtain ⟨e1, e2, hR, hm, hb, hT⟩ := hr
  have er := (hT n).1 _ (hM.2 r 0)
  have a1 : p1.toInt * R + i.toInt < m * R := by
    have : (p1.toInt + 1) * R ≤ m * R := Int.mul_le_mul_of_nonneg_right (by omega) (by omega)
    rw [Int.add_mul] at this; omega
  have a0 : 0 ≤ p1.toInt * R := Int.mul_nonneg h1 (by omega)
  have hb2 := hb9
  have em : (p1 * (M r 0)).toInt = p1.toInt * R := by
    rw [ti_mul (by rw [er]; omega) (by rw [er]; omega), er]
  refine ⟨?_, a1, by omega⟩
  rw [ti_add (by rw [em]; omega) (by rw [em]; omega), em]
theorem s_count (hr : RW r R m) (hM : CI n M) : Ok (F_X2_count M r p1) (fun q => (0 ≤ q.toInt ∧ q.toInt ≤ R) ∧ (0 < q.toInt → 0 ≤ p1.toInt ∧ p1.toInt < m ∧ q = M (r + 1) p1.toInt.toNat)) := by
  have hr' := hr
  obtain ⟨e1, e2, hR, hm, hb, hT⟩ := hr
  have hm3 : m ≤ 300 := Nat.le_trans (Nat.le_mul_of_pos_right m hR) hb
  unfold F_X2_count
  rw [e1]
  refine ok_i (fun c => ok_s ⟨by rw [ti_n0]; omega, by rw [ti_n0]; omega⟩) (fun c => ok_i (fun d => ok_s ⟨by rw [ti_n0]; omega, by rw [ti_n0]; omega⟩) (fun d => ?_))
  rw [ti_lt, ti_n0] at c
  rw [ti_le, ti_nI (by omega)] at d
  refine ok_g (ti_in (by omega) (by omega)) (ok_s ⟨((hT n).2.1 _ _).mp (hM.2 _ _), fun _ => ⟨by omega, by omega, rfl⟩⟩)
theorem s_item (hr : RW r R m) (hM : CI n M) : Ok (F_X2_item M r p1 p2) (fun _ => True) := by
  unfold F_X2_item
  refine ok_i (fun c => ok_s trivial) (fun c => ok_b (s_count hr hM) (fun q hq => ok_i (fun d => ok_s trivial) (fun d => ?_)))
  rw [ti_lt, ti_n0] at c
  rw [ti_le] at d
  have h2 := hq.2 (by omega)
  obtain ⟨a, b, b0⟩ := rw_at hr hM h2.1 h2.2.1 p2 (by omega) (by omega)
  have e2 := hr.2.1
  refine ok_g (ti_in (by omega) (by rw [e2]; push_cast; omega)) (ok_s trivial)
theorem s_add (hr : RW r R m) (hM : CI n M) : Ok (F_X2_add M r p1 p2) (fun q => CI n q.2) := by
  have hr' := hr
  obtain ⟨e1, e2, hR, hm, hb, hT⟩ := hr
  have hm3 : m ≤ 300 := Nat.le_trans (Nat.le_mul_of_pos_right m hR) hb
  unfold F_X2_add
  rw [e1, e2]
  refine ok_i (fun c => ok_s hM) (fun c => ok_i (fun d => ok_s hM) (fun d => ?_))
  rw [ti_lt, ti_n0] at c
  rw [ti_le, ti_nI (by omega)] at d
  have g : inb p1 m = true := ti_in (by omega) (by omega)
  refine ok_g g (ok_i (fun e => ?_) (fun e => ok_s hM))
  have er := (hT n).1 _ (hM.2 r 0)
  rw [ti_lt, er] at e
  have hc := ((hT n).2.1 _ _).mp (hM.2 (r + 1) p1.toNatClampNeg)
  obtain ⟨a, b, b0⟩ := rw_at (p1 := p1) hr' hM (by omega) (by omega) (M (r + 1) p1.toNatClampNeg) hc.1 e
  refine ok_g g (ok_g (ti_in (by omega) (by push_cast; omega)) (ok_m (ok_g g (ok_g g (ok_m (ok_g g (ok_s ?_)))))))
  refine CI.up (CI.up hM ((hT n).2.2 _ _)) (((hT n).2.1 _ _).mpr ?_)
  have hR3 : R ≤ 300 := Nat.le_trans (Nat.le_mul_of_pos_left R hm) hb
  rw [up2_k (by omega), ti_inc (by omega)]
  omega
theorem s_placeOf (hr : RW r R m) (hM : CI n M) : Ok (F_X2_placeOf M r p1 p2) (fun q => q.toInt = -1 ∨ (0 ≤ q.toInt ∧ q.toInt < (M (r + 1) p1.toInt.toNat).toInt ∧ 0 ≤ p1.toInt ∧ p1.toInt < m)) := by
  unfold F_X2_placeOf
  refine ok_b (s_count hr hM) (fun q hq => ?_)
  have hR3 : R ≤ 300 := Nat.le_trans (Nat.le_mul_of_pos_left R hr.2.2.2.1) hr.2.2.2.2.1
  have key : ∀ (f : Nat) (v : Int32), 0 ≤ v.toInt → v.toInt ≤ 300 → 300 - v.toInt < f → Ok (L_X2_placeOf_9 (fun v4_9 => some (-1)) M q p1 p2 r f v) (fun q => q.toInt = -1 ∨ (0 ≤ q.toInt ∧ q.toInt < (M (r + 1) p1.toInt.toNat).toInt ∧ 0 ≤ p1.toInt ∧ p1.toInt < m)) := by
    intro f
    induction f with
    | zero => intro v h0 h1 h2; omega
    | succ f ih =>
      intro v h0 h1 h2
      rw [L_X2_placeOf_9]
      refine ok_i (fun c => ok_s (Or.inl ti_m1)) (fun c => ?_)
      rw [ti_le] at c
      have h3 := hq.2 (by omega)
      obtain ⟨a, b, b0⟩ := rw_at hr hM h3.1 h3.2.1 v (by omega) (by omega)
      refine ok_g (ti_in (by omega) (by rw [hr.2.1]; push_cast; omega)) (ok_i (fun e => ok_s (Or.inr ⟨h0, by rw [← h3.2.2]; omega, h3.1, h3.2.1⟩)) (fun e => ?_))
      have e1 := ti_inc (a := v) (by omega)
      exact ih _ (by omega) (by omega) (by omega)
  exact key 4000 0 (by rw [ti_n0]; omega) (by rw [ti_n0]; omega) (by rw [ti_n0]; omega)
theorem s_remove (hr : RW r R m) (hM : CI n M) : Ok (F_X2_remove M r p1 p2) (CI n) := by
  unfold F_X2_remove
  refine ok_b (s_placeOf hr hM) (fun q hq => ok_i (fun c => ok_s hM) (fun c => ?_))
  rw [ti_eq, ti_m1] at c
  obtain ⟨q0, q1, q2, q3⟩ := hq.resolve_left c
  have hr' := hr
  obtain ⟨e1, e2, hR, hm, hb, hT⟩ := hr
  have hR3 : R ≤ 300 := Nat.le_trans (Nat.le_mul_of_pos_left R hm) hb
  have g : inb p1 (ln (r + 1)) = true := by rw [e1]; exact ti_in q2 q3
  refine ok_g g (ok_g g (ok_m ?_))
  have hc := ((hT n).2.1 _ _).mp (hM.2 (r + 1) p1.toInt.toNat)
  have key : ∀ (f : Nat) (M : Mem) (v : Int32), CI n M → 0 ≤ v.toInt → v.toInt ≤ 300 → (M (r + 1) p1.toInt.toNat).toInt + 1 ≤ R → 300 - v.toInt < f → Ok (L_X2_remove_26 (fun M_7 v4_26 => some M_7) q p1 p2 r f M v) (CI n) := by
    intro f
    induction f with
    | zero => intro M v _ h0 h1 _ h2; omega
    | succ f ih =>
      intro M v hM h0 h1 hl h2
      rw [L_X2_remove_26]
      refine ok_g g (ok_i (fun c => ok_s hM) (fun c => ?_))
      rw [ti_le, ti_cl] at c
      have e3 := ti_inc (a := v) (by omega)
      obtain ⟨a, b, b0⟩ := rw_at hr' hM q2 q3 v (by omega) (by omega)
      obtain ⟨a', b', b0'⟩ := rw_at hr' hM q2 q3 (v + 1) (by omega) (by omega)
      have hb9 := rw_b hr'
      have a2 : ((p1 * M r 0 + v) + 1).toInt = (p1 * M r 0 + v).toInt + 1 := ti_inc (by omega)
      refine ok_g (ti_in (by omega) (by rw [e2]; push_cast; omega)) (ok_g (ti_in (by omega) (by rw [e2]; push_cast; omega)) (ok_m ?_))
      exact ih _ _ (CI.up hM ((hT n).2.2 _ _)) (by omega) (by omega) (by rw [up2_k (by omega)]; exact hl) (by omega)
  refine key 4000 _ q (CI.up hM (((hT n).2.1 _ _).mpr ?_)) q0 (by omega) ?_ (by omega)
  · rw [ti_cl, ti_dec (by omega)]; omega
  · rw [ti_cl, up2_s, ti_dec (by omega)]; omega
end CR
