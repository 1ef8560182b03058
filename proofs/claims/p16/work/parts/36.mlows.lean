section ML
variable {n : Nat} {N : Mem} {p0 p1 p2 p3 : Int32}
theorem m_in : Ok (F_X6_in N p0 p1 p2) (fun q => (q = 1 ∧ p1.toInt ≤ p0.toInt ∧ p0.toInt ≤ p2.toInt) ∨ (q = 0 ∧ (p0.toInt < p1.toInt ∨ p2.toInt < p0.toInt))) := by
  unfold F_X6_in
  refine ok_i (fun c => ok_s (Or.inr ⟨rfl, Or.inl (ti_lt.mp c)⟩)) (fun c => ok_i (fun d => ok_s (Or.inr ⟨rfl, Or.inr (ti_lt.mp d)⟩)) (fun d => ok_s (Or.inl ⟨rfl, ?_⟩)))
  rw [ti_lt] at c d
  omega
theorem m_isWork (hN : MT n N) : Ok (F_X6_isWork N p1) (fun q => (q = 1 ∧ 0 ≤ p1.toInt ∧ p1.toInt < n) ∨ (q = 0 ∧ (p1.toInt < 0 ∨ n ≤ p1.toInt))) := by
  unfold F_X6_isWork
  have e0 := hN.wk
  have h12 := hN.1
  have e1 := ti_dec (a := N 0 1) (by omega)
  refine ok_b m_in (fun q hq => ?_)
  rw [ti_n0, e1] at hq
  rcases hq with ⟨rfl, h⟩ | ⟨rfl, h⟩
  · exact ok_g (by decide) (ok_s (Or.inl ⟨rfl, by omega⟩))
  · exact ok_g (by decide) (ok_s (Or.inr ⟨rfl, by omega⟩))
theorem m_isStep (hN : MT n N) : Ok (F_X6_isStep N p1 p2) (fun q => (q = 1 ∧ (0 ≤ p1.toInt ∧ p1.toInt < n) ∧ 0 ≤ p2.toInt ∧ p2.toInt < (N 1 p1.toNatClampNeg).toInt) ∨ (q = 0 ∧ ¬ ((0 ≤ p1.toInt ∧ p1.toInt < n) ∧ 0 ≤ p2.toInt ∧ p2.toInt < (N 1 p1.toNatClampNeg).toInt))) := by
  unfold F_X6_isStep
  have h12 := hN.1
  refine ok_b (m_isWork hN) (fun q hq => ?_)
  rcases hq with ⟨rfl, h⟩ | ⟨rfl, h⟩
  · refine ok_i (fun c => absurd c (by decide)) (fun _ => ok_g (ti_in h.1 (by rw [show lm 1 = 12 from rfl]; omega)) (ok_b m_in (fun q hq => ?_)))
    have hs := (hN.st (j := p1.toNatClampNeg)).1
    rw [ti_n0, ti_dec (by omega)] at hq
    rcases hq with ⟨rfl, h'⟩ | ⟨rfl, h'⟩
    · exact ok_i (fun c => absurd c (by decide)) (fun _ => ok_s (Or.inl ⟨rfl, by omega⟩))
    · exact ok_i (fun _ => ok_s (Or.inr ⟨rfl, by omega⟩)) (fun c => absurd rfl c)
  · exact ok_i (fun _ => ok_s (Or.inr ⟨rfl, by omega⟩)) (fun c => absurd rfl c)
theorem m_ahead (hN : MT n N) (h0 : 0 ≤ p2.toInt) (h1 : p2.toInt < 12) : Ok (F_X6_ahead N p1 p2) (fun _ => True) := by
  unfold F_X6_ahead
  have g2 : inb p2 12 = true := ti_in h0 (by omega)
  have key : ∀ (f : Nat) (u v : Int32), 0 ≤ v.toInt → v.toInt ≤ 12 → 12 - v.toInt < f → Ok (L_X6_ahead_5 (fun v3_5 v4_5 => some v3_5) N p1 p2 f u v) (fun _ => True) := by
    intro f
    induction f with
    | zero => intro u v h0 h1 h2; omega
    | succ f ih =>
      intro u v h0 h1 h2
      rw [L_X6_ahead_5]
      refine ok_i (fun _ => ok_s trivial) (fun c => ?_)
      have h12 := hN.1
      rw [ti_le, hN.wk] at c
      have e1 := ti_inc (a := v) (by omega)
      have g : inb v 12 = true := ti_in h0 (by omega)
      have go : ∀ u, Ok (L_X6_ahead_5 (fun v3_5 v4_5 => some v3_5) N p1 p2 f u (v + 1)) (fun _ => True) := fun u => ih _ _ (by omega) (by omega) (by omega)
      exact ok_i (fun _ => go _) (fun _ => ok_g g (ok_i (fun _ => ok_g g2 (ok_i (fun _ => ok_g g (ok_g g2 (ok_i (fun _ => go _) (fun _ => go _)))) (fun _ => go _))) (fun _ => go _)))
  exact key 4000 0 0 (by rw [ti_n0]; omega) (by rw [ti_n0]; omega) (by rw [ti_n0]; omega)
/-- what takes leaves, when it takes and when it waits -/
def tkN (N : Mem) (w c : Int32) : Mem := up2 (up2 (up2 N 16 c.toNatClampNeg (w + 1)) 10 w.toNatClampNeg 0) 5 w.toNatClampNeg (N 5 w.toNatClampNeg + 1)
def waN (N : Mem) (w c : Int32) : Mem := up2 (up2 (up2 N 10 w.toNatClampNeg (c + 1)) 11 w.toNatClampNeg (N 0 13)) 0 13 (N 0 13 + 1)
theorem m_takes (hN : MT n N) (h0 : 0 ≤ p1.toInt) (h1 : p1.toInt < 12) (c0 : 0 ≤ p2.toInt) (c1 : p2.toInt < 10) : Ok (F_X6_takes N p1 p2) (fun q => q = (1, tkN N p1 p2) ∨ q = (3, N) ∨ q = (3, waN N p1 p2)) := by
  unfold F_X6_takes
  have gw : inb p1 12 = true := ti_in h0 (by omega)
  have gc : inb p2 10 = true := ti_in c0 (by omega)
  have tk : Ok (gd (inb p2 (lm 16)) <| bm (up2 N 16 p2.toNatClampNeg (p1 + 1)) fun M_4 => gd (inb p1 (lm 10)) <| bm (up2 M_4 10 p1.toNatClampNeg 0) fun M_6 => gd (inb p1 (lm 5)) <| gd (inb p1 (lm 5)) <| bm (up2 M_6 5 p1.toNatClampNeg ((M_6 5 p1.toNatClampNeg) + 1)) fun M_9 => some ((1 : Int32), M_9)) (fun q => q = (1, tkN N p1 p2) ∨ q = (3, N) ∨ q = (3, waN N p1 p2)) := by
    refine ok_g gc (ok_m (ok_g gw (ok_m (ok_g gw (ok_g gw (ok_m (ok_s (Or.inl ?_))))))))
    unfold tkN
    rw [up2_k (show (5 : Nat) ≠ 10 by decide), up2_k (show (5 : Nat) ≠ 16 by decide)]
  have wa : Ok (gd (inb p1 (lm 10)) <| (if (N 10 p1.toNatClampNeg) = (p2 + 1) then some ((3 : Int32), N) else gd (inb p1 (lm 10)) <| bm (up2 N 10 p1.toNatClampNeg (p2 + 1)) fun M_25 => gd (inb p1 (lm 11)) <| bm (up2 M_25 11 p1.toNatClampNeg (M_25 0 13)) fun M_27 => bm (up2 M_27 0 13 ((M_27 0 13) + 1)) fun M_28 => some (3, M_28))) (fun q => q = (1, tkN N p1 p2) ∨ q = (3, N) ∨ q = (3, waN N p1 p2)) := by
    refine ok_g gw (ok_i (fun _ => ok_s (Or.inr (Or.inl rfl))) (fun _ => ok_g gw (ok_m (ok_g gw (ok_m (ok_m (ok_s (Or.inr (Or.inr ?_)))))))))
    unfold waN
    rw [up2_k (show (0 : Nat) ≠ 10 by decide), up2_k (show (0 : Nat) ≠ 11 by decide), up2_k (show (0 : Nat) ≠ 10 by decide)]
  exact ok_g gc (ok_i (fun _ => tk) (fun _ => ok_g gc (ok_i (fun _ => ok_b (m_ahead hN h0 h1) (fun q _ => ok_i (fun _ => tk) (fun _ => wa))) (fun _ => wa))))
def hdN (N : Mem) (w k : Int32) : Mem := up2 (up2 N 18 k.toNatClampNeg (N 18 k.toNatClampNeg - 1)) 5 w.toNatClampNeg (N 5 w.toNatClampNeg + 1)
def asN (N : Mem) (w k : Int32) : Mem := up2 (up2 (up2 N 19 k.toNatClampNeg (N 19 k.toNatClampNeg - 1)) 18 k.toNatClampNeg (N 18 k.toNatClampNeg + 1)) 8 w.toNatClampNeg (N 8 w.toNatClampNeg + 1)
theorem m_pair (h0 : 0 ≤ p1.toInt) (h1 : p1.toInt < 12) (c0 : 0 ≤ p2.toInt) (c1 : p2.toInt < 12) : ((12 * p2) + p1).toInt = 12 * p2.toInt + p1.toInt := by
  have e : (12 * p2).toInt = 12 * p2.toInt := by rw [ti_mul (by rw [ti_n12]; omega) (by rw [ti_n12]; omega), ti_n12]
  rw [ti_add (by omega) (by omega), e]
theorem m_hears (h0 : 0 ≤ p1.toInt) (h1 : p1.toInt < 12) (c0 : 0 ≤ p2.toInt) (c1 : p2.toInt < 12) : Ok (F_X6_hears N p1 p2) (fun q => (q = (1, hdN N p1 (12 * p2 + p1)) ∧ 0 < (N 18 (12 * p2 + p1).toNatClampNeg).toInt) ∨ (q = (4, N) ∧ (N 18 (12 * p2 + p1).toNatClampNeg).toInt ≤ 0 ∧ (N 19 (12 * p2 + p1).toNatClampNeg).toInt = 0) ∨ (q = (5, asN N p1 (12 * p2 + p1)) ∧ (N 18 (12 * p2 + p1).toNatClampNeg).toInt ≤ 0 ∧ (N 19 (12 * p2 + p1).toNatClampNeg).toInt ≠ 0)) := by
  unfold F_X6_hears
  have e := m_pair h0 h1 c0 c1
  have gw : inb p1 12 = true := ti_in h0 (by omega)
  have gk : inb (12 * p2 + p1) 144 = true := ti_in (by omega) (by omega)
  refine ok_g gk (ok_i (fun c => ok_g gk (ok_i (fun d => ok_s (Or.inr (Or.inl ⟨rfl, ?_⟩))) (fun d => ok_g gk (ok_g gk (ok_m (ok_g gk (ok_g gk (ok_m (ok_g gw (ok_g gw (ok_m (ok_s (Or.inr (Or.inr ⟨?_, ?_⟩)))))))))))))) (fun c => ok_g gk (ok_g gk (ok_m (ok_g gw (ok_g gw (ok_m (ok_s (Or.inl ⟨?_, ?_⟩)))))))))
  · rw [ti_le, ti_n0] at c
    rw [ti_eq, ti_n0] at d
    exact ⟨c, d⟩
  · unfold asN
    rw [up2_k (show (18 : Nat) ≠ 19 by decide), up2_k (show (8 : Nat) ≠ 18 by decide), up2_k (show (8 : Nat) ≠ 19 by decide)]
  · rw [ti_le, ti_n0] at c
    rw [ti_eq, ti_n0] at d
    exact ⟨c, d⟩
  · unfold hdN
    rw [up2_k (show (5 : Nat) ≠ 18 by decide)]
  · rw [ti_le, ti_n0] at c
    omega
/-- what frees leaves -/
def FrP (w : Int32) (n : Nat) (N N' : Mem) : Prop :=
  MT n N' ∧ (∀ k j, k ≠ 16 → k ≠ 10 → k ≠ 20 → k ≠ 21 → k ≠ 22 → (k ≠ 0 ∨ j ≠ 23) → N' k j = N k j) ∧ (∀ j, N' 16 j = if j < 10 ∧ N 16 j = w + 1 then 0 else N 16 j) ∧ (∀ j, N' 10 j = if j = w.toNatClampNeg then 0 else N 10 j) ∧ cL N' = (cL N).filter (fun e => decide (¬ e.1 = w))
theorem fr_mem {e : Ce} {N : Mem} {m : Nat} (h : e ∈ cl N m) : ∃ k, k < m ∧ e = (N 20 k, N 21 k, N 22 k) := by
  unfold cl at h
  obtain ⟨k, hk, rfl⟩ := List.mem_map.mp h
  exact ⟨k, List.mem_range.mp hk, rfl⟩
theorem m_fr2 {P : Mem → Prop} {K : Mem → Int32 → Int32 → Option Mem} {N0 : Mem} (hK : ∀ N a b, MT n N → (∀ k j, k ≠ 20 → k ≠ 21 → k ≠ 22 → N k j = N0 k j) → 0 ≤ a.toInt → a.toInt ≤ (N0 0 23).toInt → cl N a.toInt.toNat = (cL N0).filter (fun e => decide (¬ e.1 = p1)) → Ok (K N a b) P) : ∀ (f : Nat) (N : Mem) (a b : Int32), MT n N → (∀ k j, k ≠ 20 → k ≠ 21 → k ≠ 22 → N k j = N0 k j) → (∀ k j, b.toInt.toNat ≤ j → N k j = N0 k j) → 0 ≤ a.toInt → a.toInt ≤ b.toInt → b.toInt ≤ (N0 0 23).toInt → cl N a.toInt.toNat = (cl N0 b.toInt.toNat).filter (fun e => decide (¬ e.1 = p1)) → 1200 - b.toInt < f → Ok (L_X6_frees_53 K p1 f N a b) P := by
  intro f
  induction f with
  | zero =>
    intro N a b hN h1 h2 h3 h4 h5 h6 h7
    have := hN.ch
    rw [h1 0 23 (by decide) (by decide) (by decide)] at this
    omega
  | succ f ih =>
    intro N a b hN h1 h2 h3 h4 h5 h6 h7
    have hc := hN.ch
    have e0 : N 0 23 = N0 0 23 := h1 0 23 (by decide) (by decide) (by decide)
    rw [L_X6_frees_53]
    refine ok_i (fun c => ?_) (fun c => ?_)
    · rw [ti_le, e0] at c
      have e : b.toInt = (N0 0 23).toInt := by omega
      rw [e] at h6
      exact hK _ _ _ hN h1 h3 (by omega) h6
    · rw [ti_le, e0] at c
      rw [e0] at hc
      have e1 := ti_inc (a := b) (by omega)
      have gb : inb b 1200 = true := ti_in (by omega) (by omega)
      have ga : inb a 1200 = true := ti_in (by omega) (by omega)
      have es : (b + 1).toInt.toNat = b.toInt.toNat + 1 := by omega
      have d : ∀ k, N0 k b.toInt.toNat = N k b.toInt.toNat := fun k => (h2 k _ (Nat.le_refl _)).symm
      refine ok_g gb (ok_i (fun d1 => ?_) (fun d1 => ?_))
      · refine ih _ _ _ hN h1 (fun k j hj => h2 k j (by omega)) h3 (by omega) (by omega) ?_ (by omega)
        rw [es, cl_s, List.filter_append, h6, d 20]
        simp [d1]
      · have e2 := ti_inc (a := a) (by omega)
        have eas : (a + 1).toInt.toNat = a.toInt.toNat + 1 := by omega
        refine ok_g gb (ok_g ga (ok_m (ok_g gb (ok_g ga (ok_m (ok_g gb (ok_g ga (ok_m ?_))))))))
        rw [up2_k (M := N) (show (21 : Nat) ≠ 20 by decide), up2_k (show (22 : Nat) ≠ 21 by decide), up2_k (show (22 : Nat) ≠ 20 by decide)]
        refine ih _ _ _ (((hN.up (tm_cb hN.cb)).up (tm_cd hN.cd)).up (tm_f (by decide))) ?_ ?_ (by omega) (by omega) (by omega) ?_ (by omega)
        · intro k j a0 a1 a2
          rw [up2_k a2, up2_k a1, up2_k a0]
          exact h1 k j a0 a1 a2
        · intro k j hj
          rw [up2_e, if_neg (by rw [ti_cl]; omega), up2_e, if_neg (by rw [ti_cl]; omega), up2_e, if_neg (by rw [ti_cl]; omega)]
          exact h2 k j (by omega)
        · rw [eas, cl_s, es, cl_s, List.filter_append, d 20, d 21, d 22]
          congr 1
          · rw [← h6]
            refine cl_c (fun k hk => ?_)
            have : k ≠ a.toNatClampNeg := by rw [ti_cl]; omega
            refine ⟨?_, ?_, ?_⟩
            · rw [up2_k (by decide), up2_k (by decide), up2_j this]
            · rw [up2_k (by decide), up2_j this, up2_k (by decide)]
            · rw [up2_j this, up2_k (by decide), up2_k (by decide)]
          · rw [List.filter_cons_of_pos (by simp [d1]), List.filter_nil]
            simp only [ti_cl]
            rw [up2_k (show (20 : Nat) ≠ 22 by decide), up2_k (show (20 : Nat) ≠ 21 by decide), up2_s, up2_k (show (21 : Nat) ≠ 22 by decide), up2_s, up2_s]
end ML
