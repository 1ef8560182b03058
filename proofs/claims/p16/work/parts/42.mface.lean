section MG
variable {n : Nat} {N N' : Mem} {p1 p2 p3 p4 : Int32} {B : Int} {w : Nat}
theorem mi_0 (h : MI n B N) {v : Int32} : MI n B (up2 N 0 0 v) := by
  have l : La (up2 N 0 0 v) = La N := la_c (fun i => up2_k (by decide)) (up2_j (by decide))
  exact ⟨h.1.up (tm_z (by decide)), mx_c h.2.1 (fun i => up2_k (by decide)) (fun i => up2_k (by decide)) (fun i => up2_k (by decide)) (cL_c (up2_j (by decide)) (fun k i hk => up2_k (by omega))), by rw [l]; exact h.2.2⟩
theorem MT.suc (h : MT n N) (hn : n < 12) (h1 : 1 ≤ (N 1 n).toInt) {v : Int32} (hv : v.toInt = n + 1) : MT (n + 1) (up2 N 0 1 v) := by
  refine ⟨by omega, fun a b => ?_⟩
  rw [up2_e]
  by_cases c : a = 0 ∧ b = 1
  · rw [if_pos c, c.1, c.2]
    refine ⟨?_, ?_, ?_, ?_, ?_, ?_, ?_, ?_, ?_, ?_, ?_, ?_, ?_, ?_, ?_, ?_⟩ <;> intros <;> omega
  · rw [if_neg c]
    obtain ⟨t1, t2, t3, t4, t5, t6, t7, t8, t9, t10, t11, t12, t13, t14, t15, t16⟩ := h.2 a b
    refine ⟨fun x y => absurd ⟨x, y⟩ c, t2, t3, t4, fun x => ⟨(t5 x).1, fun y => ?_⟩, t6, t7, t8, t9, t10, t11, fun x => ?_, t13, t14, t15, t16⟩
    · by_cases e : b = n
      · rw [x, e]; exact h1
      · exact (t5 x).2 (by omega)
    · have := t12 x
      omega
theorem MI.mono (h : MI n B N) {B' : Int} (hb : B ≤ B') : MI n B' N := ⟨h.1, h.2.1, Int.le_trans h.2.2 hb⟩
theorem m_work (h : MI n B N) : Ok (F_X6_work N p1 p2) (fun q => MI (wk n p1 p2).1 B q.2 ∧ q.1.toInt = (wk n p1 p2).2) := by
  unfold F_X6_work
  refine ok_m ?_
  have h0 := mi_0 h (v := 0)
  generalize up2 N 0 0 0 = N0 at h0 ⊢
  have h12 := h0.1.1
  have e0 := h0.1.wk
  have bad : (p1.toInt < 1 ∨ 10 < p1.toInt ∨ p2.toInt < -1 ∨ p1.toInt ≤ p2.toInt) → Ok (some ((-2 : Int32), N0)) (fun q => MI (wk n p1 p2).1 B q.2 ∧ q.1.toInt = (wk n p1 p2).2) := by
    intro hb
    refine ok_s ?_
    unfold wk
    rw [if_pos hb]
    exact ⟨h0, show (-2 : Int32).toInt = -2 by decide⟩
  refine ok_b m_in (fun q hq => ?_)
  rw [ti_n1, ti_n10] at hq
  rcases hq with ⟨rfl, hq⟩ | ⟨rfl, hq⟩
  · refine ok_i (fun c => absurd c (by decide)) (fun _ => ok_b m_in (fun q hq2 => ?_))
    rw [ti_m1, ti_dec (by omega)] at hq2
    rcases hq2 with ⟨rfl, hq2⟩ | ⟨rfl, hq2⟩
    · have hk : ¬ (p1.toInt < 1 ∨ 10 < p1.toInt ∨ p2.toInt < -1 ∨ p1.toInt ≤ p2.toInt) := by omega
      refine ok_i (fun c => absurd c (by decide)) (fun _ => ok_i (fun c => ok_s ?_) (fun c => ?_))
      · rw [ti_eq, ti_n12] at c
        unfold wk
        rw [if_neg hk, if_neg (by omega)]
        exact ⟨h0, show (-4 : Int32).toInt = -4 by decide⟩
      · rw [ti_eq, ti_n12] at c
        have g : inb (N0 0 1) 12 = true := ti_in (by omega) (by omega)
        refine ok_g g (ok_m ?_)
        rw [up2_k (show (0 : Nat) ≠ 1 by decide)]
        refine ok_g g (ok_m (ok_m (ok_s ?_)))
        rw [up2_k (show (0 : Nat) ≠ 2 by decide), up2_k (show (0 : Nat) ≠ 1 by decide)]
        have ei : (N0 0 1).toNatClampNeg = n := by rw [ti_cl]; omega
        have ev := ti_inc (a := N0 0 1) (by omega)
        rw [ei]
        unfold wk
        rw [if_neg hk, if_pos (by omega)]
        have hM2 : MT n (up2 (up2 N0 1 n p1) 2 n p2) := (h0.1.up (tm_st (by omega))).up (tm_f (by decide))
        have x1 : up2 (up2 N0 1 n p1) 2 n p2 1 n = p1 := by rw [up2_k (by decide), up2_s]
        have l : La (up2 (up2 (up2 N0 1 n p1) 2 n p2) 0 1 (N0 0 1 + 1)) = La N0 := la_c (fun j => by rw [up2_k (by decide), up2_k (by decide), up2_k (by decide)]) (by rw [up2_j (by decide), up2_k (by decide), up2_k (by decide)])
        have e3 : ∀ j, up2 (up2 (up2 N0 1 n p1) 2 n p2) 0 1 (N0 0 1 + 1) 3 j = N0 3 j := fun j => by rw [up2_k (by decide), up2_k (by decide), up2_k (by decide)]
        have e4 : ∀ j, up2 (up2 (up2 N0 1 n p1) 2 n p2) 0 1 (N0 0 1 + 1) 4 j = N0 4 j := fun j => by rw [up2_k (by decide), up2_k (by decide), up2_k (by decide)]
        have e1 : ∀ j, up2 (up2 (up2 N0 1 n p1) 2 n p2) 0 1 (N0 0 1 + 1) 1 j = up2 N0 1 n p1 1 j := fun j => by rw [up2_k (by decide), up2_k (by decide)]
        have ec : cL (up2 (up2 (up2 N0 1 n p1) 2 n p2) 0 1 (N0 0 1 + 1)) = cL N0 := cL_c (by rw [up2_j (by decide), up2_k (by decide), up2_k (by decide)]) (fun k j hk => by rw [up2_k (by omega), up2_k (by omega), up2_k (by omega)])
        show MI (n + 1) B (up2 (up2 (up2 N0 1 n p1) 2 n p2) 0 1 (N0 0 1 + 1)) ∧ (up2 (up2 (up2 N0 1 n p1) 2 n p2) 0 1 (N0 0 1 + 1) 0 1 - 1).toInt = (n : Int)
        refine ⟨⟨hM2.suc (by omega) (by rw [x1]; omega) (by omega), ⟨fun j hj hs => ?_, fun j hj hj2 => ?_, fun j hj => ?_⟩, by rw [l]; exact h0.2.2⟩, ?_⟩
        · rw [e3] at hs
          rw [e4, e1]
          by_cases e : j = n
          · subst e
            rw [up2_s, h0.2.1.2.1 j (by omega) (by omega)]
            omega
          · rw [up2_j e]
            exact h0.2.1.1 j (by omega) hs
        · rw [e4]; exact h0.2.1.2.1 j (by omega) hj2
        · rw [ec, e3, e4]; exact h0.2.1.2.2 j hj
        · rw [up2_s, ti_dec (by omega)]
          omega
    · exact ok_i (fun _ => bad (by omega)) (fun c => absurd rfl c)
  · exact ok_i (fun _ => bad (by omega)) (fun c => absurd rfl c)
theorem mi_st (h : MI n B N) {k j : Nat} {v : Int32} (hk : k = 12 ∨ k = 13 ∨ k = 14 ∨ k = 15) (t : Tm n k j v) : MI n B (up2 N k j v) := by
  have l : La (up2 N k j v) = La N := la_c (fun i => up2_k (by omega)) (up2_k (by omega))
  exact ⟨h.1.up t, mx_c h.2.1 (fun i => up2_k (by omega)) (fun i => up2_k (by omega)) (fun i => up2_k (by omega)) (cL_c (up2_k (by omega)) (fun k i hk => up2_k (by omega))), by rw [l]; exact h.2.2⟩
theorem m_wa (h : MI n B N) (hw : 0 ≤ p1.toInt ∧ p1.toInt < n) (hs : 0 ≤ p2.toInt ∧ p2.toInt < 10) {v : Int32} (hv : (0 ≤ v.toInt ∧ v.toInt ≤ 9) ∨ (100 ≤ v.toInt ∧ v.toInt ≤ 111)) (hc : ¬ N 12 ((10 * p1) + p2).toNatClampNeg = 4) : Ok (gd (inb ((4 * ((10 * p1) + p2)) + (N 12 ((10 * p1) + p2).toNatClampNeg)) (lm 13)) <| bm (up2 N 13 (((4 * ((10 * p1) + p2)) + (N 12 ((10 * p1) + p2).toNatClampNeg)).toNatClampNeg) v) fun M_16 => gd (inb ((10 * p1) + p2) (lm 12)) <| gd (inb ((10 * p1) + p2) (lm 12)) <| bm (up2 M_16 12 (((10 * p1) + p2).toNatClampNeg) ((M_16 12 ((10 * p1) + p2).toNatClampNeg) + 1)) fun M_19 => gd (inb ((10 * p1) + p2) (lm 12)) <| some ((M_19 12 ((10 * p1) + p2).toNatClampNeg), M_19)) (fun q => MI n B q.2) := by
  have h12 := h.1.1
  have ek := m_k10 (p1 := p1) (c2 := p2) hw.1 (by omega) hs.1 hs.2
  have gk : inb ((10 * p1) + p2) 120 = true := ti_in (by omega) (by omega)
  have hwc := h.1.wc (j := ((10 * p1) + p2).toNatClampNeg)
  rw [ti_eq, ti_n4] at hc
  have e4 : (4 * ((10 * p1) + p2)).toInt = 4 * (10 * p1.toInt + p2.toInt) := by rw [ti_mul (by rw [ti_n4]; omega) (by rw [ti_n4]; omega), ti_n4, ek]
  have ei : ((4 * ((10 * p1) + p2)) + (N 12 ((10 * p1) + p2).toNatClampNeg)).toInt = 4 * (10 * p1.toInt + p2.toInt) + (N 12 ((10 * p1) + p2).toNatClampNeg).toInt := by rw [ti_add (by omega) (by omega), e4]
  have e1 := ti_inc (a := N 12 ((10 * p1) + p2).toNatClampNeg) (by omega)
  refine ok_g (ti_in (by omega) (by rw [show lm 13 = 480 from rfl]; omega)) (ok_m (ok_g gk (ok_g gk (ok_m (ok_g gk (ok_s ?_))))))
  refine mi_st (mi_st h (by decide) (tm_wt hv)) (by decide) (tm_wc ?_)
  rw [up2_k (by decide), e1]
  omega
theorem m_wants (h : MI n B N) : Ok (F_X6_wants N p1 p2 p3 p4) (fun q => MI n B q.2) := by
  unfold F_X6_wants
  refine ok_m ?_
  have h0 := mi_0 h (v := 0)
  generalize up2 N 0 0 0 = N0 at h0 ⊢
  have h12 := h0.1.1
  refine ok_b (m_isStep h0.1) (fun q hq => ?_)
  rcases hq with ⟨rfl, hw, hs⟩ | ⟨rfl, hq⟩
  · have hst := (h0.1.st (j := p1.toNatClampNeg)).1
    have gw : inb p1 12 = true := ti_in hw.1 (by omega)
    have hs2 : 0 ≤ p2.toInt ∧ p2.toInt < 10 := by omega
    have ek := m_k10 (p1 := p1) (c2 := p2) hw.1 (by omega) hs2.1 hs2.2
    have gk : inb ((10 * p1) + p2) 120 = true := ti_in (by omega) (by omega)
    refine ok_i (fun c => absurd c (by decide)) (fun _ => ok_i (fun c3 => ok_b m_in (fun q hq => ?_)) (fun c3 => ok_b (m_isWork h0.1) (fun q hq => ?_)))
    · rw [ti_n0, ti_n9] at hq
      rcases hq with ⟨rfl, hq⟩ | ⟨rfl, hq⟩
      · refine ok_i (fun c => absurd c (by decide)) (fun _ => ok_g gw (ok_i (fun _ => ok_g gk (ok_i (fun _ => ok_s h0) (fun hc => ok_g gk (ok_i (fun _ => m_wa h0 hw hs2 (by omega) hc) (fun c => absurd c3 c))))) (fun _ => ok_s h0)))
      · exact ok_i (fun _ => ok_s h0) (fun c => absurd rfl c)
    · rcases hq with ⟨rfl, hq⟩ | ⟨rfl, hq⟩
      · have e100 : (100 + p4).toInt = 100 + p4.toInt := by rw [ti_add (by rw [ti_n100]; omega) (by rw [ti_n100]; omega), ti_n100]
        refine ok_i (fun c => absurd c (by decide)) (fun _ => ok_i (fun _ => ok_s h0) (fun _ => ok_g gw (ok_i (fun _ => ok_g gk (ok_i (fun _ => ok_s h0) (fun hc => ok_g gk (ok_i (fun c => absurd c c3) (fun _ => m_wa h0 hw hs2 (by omega) hc))))) (fun _ => ok_s h0))))
      · exact ok_i (fun _ => ok_s h0) (fun c => absurd rfl c)
  · exact ok_i (fun _ => ok_s h0) (fun c => absurd rfl c)
theorem m_sends (h : MI n B N) : Ok (F_X6_sends N p1 p2 p3) (fun q => MI n B q.2) := by
  unfold F_X6_sends
  refine ok_m ?_
  have h0 := mi_0 h (v := 0)
  generalize up2 N 0 0 0 = N0 at h0 ⊢
  have h12 := h0.1.1
  refine ok_b (m_isStep h0.1) (fun q hq => ?_)
  rcases hq with ⟨rfl, hw, hs⟩ | ⟨rfl, hq⟩
  · have hst := (h0.1.st (j := p1.toNatClampNeg)).1
    have gw : inb p1 12 = true := ti_in hw.1 (by omega)
    have hs2 : 0 ≤ p2.toInt ∧ p2.toInt < 10 := by omega
    have ek := m_k10 (p1 := p1) (c2 := p2) hw.1 (by omega) hs2.1 hs2.2
    have gk : inb ((10 * p1) + p2) 120 = true := ti_in (by omega) (by omega)
    refine ok_i (fun c => absurd c (by decide)) (fun _ => ok_b (m_isWork h0.1) (fun q hq => ?_))
    rcases hq with ⟨rfl, hq⟩ | ⟨rfl, hq⟩
    · refine ok_i (fun c => absurd c (by decide)) (fun _ => ok_i (fun _ => ok_s h0) (fun _ => ok_g gw (ok_i (fun _ => ok_g gk (ok_i (fun _ => ok_s h0) (fun hc => ok_g gk ?_))) (fun _ => ok_s h0))))
      have hsc := h0.1.sc (j := ((10 * p1) + p2).toNatClampNeg)
      rw [ti_eq, ti_n2] at hc
      have e2 : (2 * ((10 * p1) + p2)).toInt = 2 * (10 * p1.toInt + p2.toInt) := by rw [ti_mul (by rw [ti_n2]; omega) (by rw [ti_n2]; omega), ti_n2, ek]
      have ei : ((2 * ((10 * p1) + p2)) + (N0 14 ((10 * p1) + p2).toNatClampNeg)).toInt = 2 * (10 * p1.toInt + p2.toInt) + (N0 14 ((10 * p1) + p2).toNatClampNeg).toInt := by rw [ti_add (by omega) (by omega), e2]
      have e1 := ti_inc (a := N0 14 ((10 * p1) + p2).toNatClampNeg) (by omega)
      refine ok_g (ti_in (by omega) (by rw [show lm 15 = 240 from rfl]; omega)) (ok_m (ok_g gk (ok_g gk (ok_m (ok_g gk (ok_s ?_))))))
      refine mi_st (mi_st h0 (by decide) (tm_sd (by omega))) (by decide) (tm_sc ?_)
      rw [up2_k (by decide), e1]
      omega
    · exact ok_i (fun _ => ok_s h0) (fun c => absurd rfl c)
  · exact ok_i (fun _ => ok_s h0) (fun c => absurd rfl c)
theorem m_loses (h : MI n B N) : Ok (F_X6_loses N p1) (fun q => MI n (B + 100) q.2 ∧ q.1 = if p1 < 0 ∨ 100 < p1 then -2 else 1) := by
  unfold F_X6_loses
  refine ok_m ?_
  have h0 := mi_0 h (v := 0)
  generalize up2 N 0 0 0 = N0 at h0 ⊢
  refine ok_b m_in (fun q hq => ?_)
  rw [ti_n0, ti_n100] at hq
  rcases hq with ⟨rfl, hq⟩ | ⟨rfl, hq⟩
  · refine ok_i (fun c => absurd c (by decide)) (fun _ => ok_m (ok_s ⟨?_, ?_⟩))
    · have hl := h0.1.lo
      have l : La (up2 N0 0 22 p1) = La N0 - (N0 0 22).toInt + p1.toInt := by
        unfold La
        rw [up2_s, sm_c (f := fun k => (N0 19 k).toInt) 144 (fun i _ => by rw [up2_k (by decide)])]
        omega
      show MI n (B + 100) (up2 N0 0 22 p1)
      refine ⟨h0.1.up (tm_lo (by omega)), mx_c h0.2.1 (fun i => up2_k (by decide)) (fun i => up2_k (by decide)) (fun i => up2_k (by decide)) (cL_c (up2_j (by decide)) (fun k i hk => up2_k (by omega))), ?_⟩
      have := h0.2.2
      rw [l]
      omega
    · rw [if_neg]
      rw [ti_lt, ti_lt, ti_n0, ti_n100]
      omega
  · refine ok_i (fun _ => ok_s ⟨h0.mono (by omega), ?_⟩) (fun c => absurd rfl c)
    rw [if_pos]
    rw [ti_lt, ti_lt, ti_n0, ti_n100]
    omega
theorem m_turn (h : MI n B N) (hB : B ≤ 60000) : Ok (F_X6_turn N p1) (fun q => MI n B q.2) := by
  unfold F_X6_turn
  have h0 := mi_0 h (v := 0)
  exact ok_m (ok_b (m_does h0 (by omega)) (fun q hq => ok_s (m_doI h0 (by omega) hq).1))
theorem m_run (h : MI n B N) (hB : B ≤ 60000) : Ok (F_X6_run N) (fun q => MI n B q.2) := by
  unfold F_X6_run
  refine ok_m ?_
  have h0 := mi_0 h (v := 0)
  generalize up2 N 0 0 0 = N0 at h0 ⊢
  have inn : ∀ (K : Mem → Int32 → Int32 → Int32 → Option (Int32 × Mem)) (m : Int), (∀ N a b c, MI n B N → Fi n N + La N + (if b = 0 then 0 else 1) ≤ m → Ok (K N a b c) (fun q => MI n B q.2)) → ∀ (f : Nat) (N : Mem) (a b v : Int32), MI n B N → Fi n N + La N + (if b = 0 then 0 else 1) ≤ m → 0 ≤ v.toInt → v.toInt ≤ 12 → 12 - v.toInt < f → Ok (L_X6_run_17 K f N a b v) (fun q => MI n B q.2) := by
    intro K m hK f
    induction f with
    | zero => intro N a b v _ _ h0 h1 h2; omega
    | succ f ih =>
      intro N a b v hN hm h0 h1 h2
      rw [L_X6_run_17]
      refine ok_i (fun c => hK _ _ _ _ hN hm) (fun c => ?_)
      have h12 := hN.1.1
      rw [ti_le, hN.1.wk] at c
      have e1 := ti_inc (a := v) (by omega)
      refine ok_b (m_does hN (by omega)) (fun q hq => ?_)
      obtain ⟨hq1, hq2⟩ := m_doI hN (by omega) hq
      have g1 : ∀ a : Int32, Fi n N + La N ≤ m - 1 → Ok (L_X6_run_17 K f q.2 a 1 (v + 1)) (fun q => MI n B q.2) := fun a hh => ih _ _ _ _ hq1 (by rw [if_neg (by decide)]; unfold on1 at hq2; split at hq2 <;> omega) (by omega) (by omega) (by omega)
      have g2 : ∀ a : Int32, on1 q.1 = 1 → Fi n N + La N ≤ m → Ok (L_X6_run_17 K f q.2 a 1 (v + 1)) (fun q => MI n B q.2) := fun a hh h9 => ih _ _ _ _ hq1 (by rw [if_neg (by decide)]; omega) (by omega) (by omega) (by omega)
      have g0 : ∀ a : Int32, Fi n N + La N ≤ m → Ok (L_X6_run_17 K f q.2 a 0 (v + 1)) (fun q => MI n B q.2) := fun a hh => ih _ _ _ _ hq1 (by rw [if_pos rfl]; unfold on1 at hq2; split at hq2 <;> omega) (by omega) (by omega) (by omega)
      have tl : ∀ a : Int32, Ok (if b = 0 then (if q.1 = 0 then L_X6_run_17 K f q.2 a 0 (v + 1) else (if q.1 = 3 then L_X6_run_17 K f q.2 a 0 (v + 1) else (if q.1 = 4 then L_X6_run_17 K f q.2 a 0 (v + 1) else L_X6_run_17 K f q.2 a 1 (v + 1)))) else L_X6_run_17 K f q.2 a 1 (v + 1)) (fun q => MI n B q.2) := by
        intro a
        refine ok_i (fun hb => ?_) (fun hb => ?_)
        · rw [if_pos hb] at hm
          exact ok_i (fun _ => g0 _ (by omega)) (fun x0 => ok_i (fun _ => g0 _ (by omega)) (fun x3 => ok_i (fun _ => g0 _ (by omega)) (fun x4 => g2 _ (by unfold on1; rw [if_neg]; rintro (x | x | x) <;> contradiction) (by omega))))
        · rw [if_neg hb] at hm
          exact g1 _ (by omega)
      exact ok_i (fun _ => tl _) (fun _ => tl _)
  have out : ∀ (f : Nat) (N : Mem) (a b : Int32), MI n B N → (b = 0 → 0 < f) → (¬ b = 0 → Fi n N + La N + 1 < f) → Ok (L_X6_run_9 (fun M_2 v1_9 v2_9 => some (v1_9, M_2)) f N a b) (fun q => MI n B q.2) := by
    intro f
    induction f with
    | zero =>
      intro N a b hN h1 h2
      by_cases hb : b = 0
      · exact absurd (h1 hb) (by omega)
      · have := h2 hb
        have := hN.Fi0
        have := hN.La0
        omega
    | succ f ih =>
      intro N a b hN h1 h2
      rw [L_X6_run_9]
      refine ok_i (fun _ => ok_s hN) (fun hb => ?_)
      have h3 := h2 hb
      have hF := hN.Fi0
      have hL := hN.La0
      refine inn _ (Fi n N + La N) (fun N' a' b' c' hN' hm' => ih _ _ _ hN' (fun hb' => by omega) (fun hb' => ?_)) 4000 N _ 0 0 hN (by rw [if_pos rfl]; omega) (by rw [ti_n0]; omega) (by rw [ti_n0]; omega) (by rw [ti_n0]; omega)
      rw [if_neg hb'] at hm'
      omega
  refine out 100000 N0 0 1 h0 (fun q => absurd q (by decide)) (fun _ => ?_)
  have := h0.FiM
  have := h0.2.2
  omega
theorem m_waitsOn (h : MI n B N) (h0 : 0 ≤ p1.toInt) (h1 : p1.toInt < 12) : Ok (F_X6_waitsOn N p1) (fun q => -1 ≤ q.toInt ∧ q.toInt < n) := by
  unfold F_X6_waitsOn
  have gw : inb p1 12 = true := ti_in h0 (by omega)
  have hwf := h.1.wf (j := p1.toNatClampNeg)
  refine ok_g gw (ok_i (fun _ => ok_s (by rw [ti_m1]; omega)) (fun c => ?_))
  rw [ti_eq, ti_n0] at c
  have e := ti_dec (a := N 10 p1.toNatClampNeg) (by omega)
  have ho := h.1.ow (j := (N 10 p1.toNatClampNeg - 1).toNatClampNeg)
  have e2 := ti_dec (a := N 16 (N 10 p1.toNatClampNeg - 1).toNatClampNeg) (by omega)
  exact ok_g gw (ok_g (ti_in (by omega) (by rw [show lm 16 = 10 from rfl]; omega)) (ok_s (by omega)))
theorem m_ring (h : MI n B N) : Ok (F_X6_ring N) (fun q => MI n B q.2) := by
  unfold F_X6_ring
  refine ok_m ?_
  have h0 := mi_0 h (v := 0)
  generalize up2 N 0 0 0 = N0 at h0 ⊢
  have h12 := h0.1.1
  have inn : ∀ (K : Int32 → Int32 → Int32 → Option (Int32 × Mem)) (v1 : Int32), (∀ a b c : Int32, 0 ≤ a.toInt → a.toInt < n → Ok (K a b c) (fun q => MI n B q.2)) → ∀ (f : Nat) (a b v : Int32), 0 ≤ a.toInt → a.toInt < n → -1 ≤ b.toInt → b.toInt < n → 0 ≤ v.toInt → v.toInt ≤ 12 → 12 - v.toInt < f → Ok (L_X6_ring_26 K N0 v1 f a b v) (fun q => MI n B q.2) := by
    intro K v1 hK f
    induction f with
    | zero => intro a b v _ _ _ _ h0 h1 h2; omega
    | succ f ih =>
      intro a b v a0 a1 b0 b1 v0 v1 v2
      rw [L_X6_ring_26]
      refine ok_i (fun _ => hK _ _ _ a0 a1) (fun c => ok_i (fun _ => hK _ _ _ a0 a1) (fun d => ok_i (fun _ => hK _ _ _ a0 a1) (fun _ => ?_)))
      rw [ti_le, h0.1.wk] at c
      rw [ti_lt, ti_n0] at d
      have e1 := ti_inc (a := v) (by omega)
      exact ok_i (fun _ => ok_b (m_waitsOn h0 (by omega) (by omega)) (fun q hq => ih _ _ _ a0 a1 hq.1 hq.2 (by omega) (by omega) (by omega))) (fun _ => ok_b (m_waitsOn h0 (by omega) (by omega)) (fun q hq => ih _ _ _ (by omega) (by omega) hq.1 hq.2 (by omega) (by omega) (by omega)))
  have out : ∀ (f : Nat) (v : Int32), 0 ≤ v.toInt → v.toInt ≤ 12 → 12 - v.toInt < f → Ok (L_X6_ring_7 (fun M_2 v1_7 => some ((-1), M_2)) f N0 v) (fun q => MI n B q.2) := by
    intro f
    induction f with
    | zero => intro v v0 v1 v2; omega
    | succ f ih =>
      intro v v0 v1 v2
      rw [L_X6_ring_7]
      refine ok_i (fun _ => ok_s h0) (fun c => ?_)
      rw [ti_le, h0.1.wk] at c
      have e1 := ti_inc (a := v) (by omega)
      refine ok_b (m_waitsOn h0 v0 (by omega)) (fun q hq => inn _ _ (fun a b c a0 a1 => ok_i (fun _ => ok_b (m_undo h0.1 a0 (by omega)) (fun q hq => ok_s (h0.undo a0 a1 hq (by decide)).1)) (fun _ => ih _ (by omega) (by omega) (by omega))) 4000 v q 0 v0 (by omega) hq.1 hq.2 (by rw [ti_n0]; omega) (by rw [ti_n0]; omega) (by rw [ti_n0]; omega))
  exact out 4000 0 (by rw [ti_n0]; omega) (by rw [ti_n0]; omega) (by rw [ti_n0]; omega)
theorem m_interrupt (h : MI n B N) : Ok (F_X6_interrupt N p1) (fun q => MI n B q.2) := by
  unfold F_X6_interrupt
  refine ok_m ?_
  have h0 := mi_0 h (v := 0)
  generalize up2 N 0 0 0 = N0 at h0 ⊢
  have h12 := h0.1.1
  refine ok_b (m_isWork h0.1) (fun q hq => ?_)
  rcases hq with ⟨rfl, hw⟩ | ⟨rfl, hw⟩
  · have gw : inb p1 12 = true := ti_in hw.1 (by omega)
    have u : Ok (bi (F_X6_undo N0 p1 4) fun q_9 => some ((1 : Int32), q_9)) (fun q => MI n B q.2) := ok_b (m_undo h0.1 hw.1 (by omega)) (fun q hq => ok_s (h0.undo hw.1 hw.2 hq (by decide)).1)
    exact ok_i (fun c => absurd c (by decide)) (fun _ => ok_g gw (ok_i (fun _ => ok_g gw (ok_i (fun _ => u) (fun _ => ok_g gw (ok_i (fun _ => u) (fun _ => ok_s h0))))) (fun _ => ok_s h0)))
  · exact ok_i (fun _ => ok_s h0) (fun c => absurd rfl c)
theorem m_again (h : MI n B N) : Ok (F_X6_again N p1) (fun q => MI n B q.2) := by
  unfold F_X6_again
  refine ok_m ?_
  have h0 := mi_0 h (v := 0)
  generalize up2 N 0 0 0 = N0 at h0 ⊢
  have h12 := h0.1.1
  refine ok_b (m_isWork h0.1) (fun q hq => ?_)
  rcases hq with ⟨rfl, hw⟩ | ⟨rfl, hw⟩
  · have gw : inb p1 12 = true := ti_in hw.1 (by omega)
    refine ok_i (fun c => absurd c (by decide)) (fun _ => ok_g gw (ok_b m_in (fun q hq => ?_)))
    rw [ti_n2, ti_n4] at hq
    rcases hq with ⟨rfl, hq⟩ | ⟨rfl, hq⟩
    · refine ok_i (fun c => absurd c (by decide)) (fun _ => ok_g gw (ok_m (ok_g gw (ok_m (ok_g gw (ok_m (ok_g gw (ok_m (ok_g gw (ok_m (ok_g gw (ok_g gw (ok_m (ok_g gw (ok_s ?_)))))))))))))))
      generalize hz : up2 (up2 (up2 (up2 (up2 N0 3 p1.toNatClampNeg 0) 4 p1.toNatClampNeg 0) 5 p1.toNatClampNeg 0) 6 p1.toNatClampNeg 0) 2 p1.toNatClampNeg (-1) 9 p1.toNatClampNeg + 1 = z
      have hwn : p1.toNatClampNeg < n := by rw [ti_cl]; omega
      have hM : MT n (up2 (up2 (up2 (up2 (up2 (up2 N0 3 p1.toNatClampNeg 0) 4 p1.toNatClampNeg 0) 5 p1.toNatClampNeg 0) 6 p1.toNatClampNeg 0) 2 p1.toNatClampNeg (-1)) 9 p1.toNatClampNeg z) := (((((h0.1.up (tm_f (by decide))).up (tm_sp (by rw [ti_n0]; omega))).up (tm_gt (by rw [ti_n0]; omega))).up (tm_f (by decide))).up (tm_f (by decide))).up (tm_f (by decide))
      have l : La (up2 (up2 (up2 (up2 (up2 (up2 N0 3 p1.toNatClampNeg 0) 4 p1.toNatClampNeg 0) 5 p1.toNatClampNeg 0) 6 p1.toNatClampNeg 0) 2 p1.toNatClampNeg (-1)) 9 p1.toNatClampNeg z) = La N0 := la_c (fun j => by rw [up2_k (by decide), up2_k (by decide), up2_k (by decide), up2_k (by decide), up2_k (by decide), up2_k (by decide)]) (by rw [up2_k (by decide), up2_k (by decide), up2_k (by decide), up2_k (by decide), up2_k (by decide), up2_k (by decide)])
      have c := h0.2.1.2.2 p1.toNatClampNeg (by omega)
      rw [if_neg (by omega)] at c
      have ec : cL (up2 (up2 (up2 (up2 (up2 (up2 N0 3 p1.toNatClampNeg 0) 4 p1.toNatClampNeg 0) 5 p1.toNatClampNeg 0) 6 p1.toNatClampNeg 0) 2 p1.toNatClampNeg (-1)) 9 p1.toNatClampNeg z) = cL N0 := cL_c (by rw [up2_k (by decide), up2_k (by decide), up2_k (by decide), up2_k (by decide), up2_k (by decide), up2_k (by decide)]) (fun k j hk => by rw [up2_k (by omega), up2_k (by omega), up2_k (by omega), up2_k (by omega), up2_k (by omega), up2_k (by omega)])
      have x4 : up2 (up2 (up2 (up2 (up2 (up2 N0 3 p1.toNatClampNeg 0) 4 p1.toNatClampNeg 0) 5 p1.toNatClampNeg 0) 6 p1.toNatClampNeg 0) 2 p1.toNatClampNeg (-1)) 9 p1.toNatClampNeg z 4 p1.toNatClampNeg = 0 := by rw [up2_k (by decide), up2_k (by decide), up2_k (by decide), up2_k (by decide), up2_s]
      have hst := (h0.1.st (j := p1.toNatClampNeg)).2 hwn
      have st := mx_step (N := N0) (N' := up2 (up2 (up2 (up2 (up2 (up2 N0 3 p1.toNatClampNeg 0) 4 p1.toNatClampNeg 0) 5 p1.toNatClampNeg 0) 6 p1.toNatClampNeg 0) 2 p1.toNatClampNeg (-1)) 9 p1.toNatClampNeg z) (w := p1.toNatClampNeg) h0.2.1 hwn h12 (fun j => by rw [up2_k (by decide), up2_k (by decide), up2_k (by decide), up2_k (by decide), up2_k (by decide), up2_k (by decide)]) (fun j hj => ⟨by rw [up2_k (by decide), up2_k (by decide), up2_k (by decide), up2_k (by decide), up2_k (by decide), up2_j hj], by rw [up2_k (by decide), up2_k (by decide), up2_k (by decide), up2_k (by decide), up2_j hj, up2_k (by decide)], by rw [up2_k (by decide), up2_k (by decide), up2_k (by decide), up2_j hj, up2_k (by decide), up2_k (by decide)]⟩) (fun _ => by rw [x4, ti_n0]; omega) (fun v _ _ => by rw [ec]; exact Nat.le_refl _) (by
        rw [ec, x4, ti_n0]
        split <;> omega)
      exact ⟨hM, st.1, by rw [l]; exact h0.2.2⟩
    · exact ok_i (fun _ => ok_s h0) (fun c => absurd rfl c)
  · exact ok_i (fun _ => ok_s h0) (fun c => absurd rfl c)
theorem m_close (h : MI n B N) : Ok (F_X6_close N) (fun q => MI n B q.2) := by
  unfold F_X6_close
  refine ok_m ?_
  have h0 := mi_0 h (v := 0)
  generalize up2 N 0 0 0 = N0 at h0 ⊢
  have h12 := h0.1.1
  have key : ∀ (f : Nat) (N : Mem) (a v : Int32), MI n B N → -1 ≤ v.toInt → v.toInt < n → v.toInt + 1 < f → Ok (L_X6_close_14 (fun M_2 v1_14 v2_14 => some (v1_14, M_2)) f N a v) (fun q => MI n B q.2) := by
    intro f
    induction f with
    | zero => intro N a v _ v0 v1 v2; omega
    | succ f ih =>
      intro N a v hN v0 v1 v2
      rw [L_X6_close_14]
      refine ok_i (fun _ => ok_s hN) (fun c => ?_)
      rw [ti_lt, ti_n0] at c
      have e1 := ti_dm (a := v) (by omega)
      have g : inb v 12 = true := ti_in (by omega) (by omega)
      exact ok_g g (ok_i (fun _ => ok_b (m_undo hN.1 (by omega) (by omega)) (fun q hq => ih _ _ _ (hN.undo (by omega) v1 hq (by decide)).1 (by omega) (by omega) (by omega))) (fun _ => ih _ _ _ hN (by omega) (by omega) (by omega)))
  have e0 := h0.1.wk
  have e1 := ti_dec (a := N0 0 1) (by omega)
  exact key 4000 N0 0 _ h0 (by omega) (by omega) (by omega)
theorem m_state (h : MI n B N) : Ok (F_X6_state N p1 p2) (fun q => MI n B q.2) := by
  unfold F_X6_state
  refine ok_m ?_
  have h0 := mi_0 h (v := 0)
  generalize up2 N 0 0 0 = N0 at h0 ⊢
  have h12 := h0.1.1
  refine ok_b (m_isWork h0.1) (fun q hq => ?_)
  rcases hq with ⟨rfl, hw⟩ | ⟨rfl, hw⟩
  · have gw : inb p1 12 = true := ti_in hw.1 (by omega)
    have key : ∀ (f : Nat) (u v : Int32), 0 ≤ v.toInt → v.toInt ≤ 10 → 10 - v.toInt < f → Ok (L_X6_state_78 (fun v3_78 v4_78 => some (v3_78, N0)) N0 p1 p2 f u v) (fun q => MI n B q.2) := by
      intro f
      induction f with
      | zero => intro u v v0 v1 v2; omega
      | succ f ih =>
        intro u v v0 v1 v2
        rw [L_X6_state_78]
        refine ok_i (fun _ => ok_s h0) (fun c => ?_)
        rw [ti_le, ti_n10] at c
        have e1 := ti_inc (a := v) (by omega)
        have g : inb v 10 = true := ti_in (by omega) (by omega)
        exact ok_g g (ok_i (fun _ => ih _ _ (by omega) (by omega) (by omega)) (fun _ => ih _ _ (by omega) (by omega) (by omega)))
    exact ok_i (fun c => absurd c (by decide)) (fun _ => ok_i (fun _ => ok_g gw (ok_s h0)) (fun _ => ok_i (fun _ => ok_g gw (ok_s h0)) (fun _ => ok_i (fun _ => ok_g gw (ok_s h0)) (fun _ => ok_i (fun _ => key 4000 0 0 (by rw [ti_n0]; omega) (by rw [ti_n0]; omega) (by rw [ti_n0]; omega)) (fun _ => ok_i (fun _ => ok_g gw (ok_s h0)) (fun _ => ok_s h0))))))
  · exact ok_i (fun _ => ok_s h0) (fun c => absurd rfl c)
theorem m_has (h : MI n B N) : Ok (F_X6_has N p1) (fun q => MI n B q.2) := by
  unfold F_X6_has
  refine ok_m ?_
  have h0 := mi_0 h (v := 0)
  generalize up2 N 0 0 0 = N0 at h0 ⊢
  refine ok_b m_in (fun q hq => ?_)
  rw [ti_n0, ti_n9] at hq
  rcases hq with ⟨rfl, hq⟩ | ⟨rfl, hq⟩
  · exact ok_i (fun c => absurd c (by decide)) (fun _ => ok_g (ti_in (by omega) (by rw [show lm 16 = 10 from rfl]; omega)) (ok_s h0))
  · exact ok_i (fun _ => ok_s h0) (fun c => absurd rfl c)
theorem m_line (h : MI n B N) : Ok (F_X6_line N p1 p2) (fun q => MI n B q.2) := by
  unfold F_X6_line
  refine ok_m ?_
  have h0 := mi_0 h (v := 0)
  generalize up2 N 0 0 0 = N0 at h0 ⊢
  have h12 := h0.1.1
  have key : ∀ (f : Nat) (v : Int32), 0 ≤ v.toInt → v.toInt ≤ 12 → 12 - v.toInt < f → Ok (L_X6_line_7 (fun v3_7 => some ((-1), N0)) N0 p1 p2 f v) (fun q => MI n B q.2) := by
    intro f
    induction f with
    | zero => intro v v0 v1 v2; omega
    | succ f ih =>
      intro v v0 v1 v2
      rw [L_X6_line_7]
      refine ok_i (fun _ => ok_s h0) (fun c => ok_b m_in (fun q _ => ok_i (fun _ => ok_s h0) (fun _ => ?_)))
      rw [ti_le, h0.1.wk] at c
      have e1 := ti_inc (a := v) (by omega)
      have g : inb v 12 = true := ti_in (by omega) (by omega)
      exact ok_g g (ok_i (fun _ => ok_b (m_ahead h0.1 v0 (by omega)) (fun q _ => ok_i (fun _ => ok_s h0) (fun _ => ih _ (by omega) (by omega) (by omega)))) (fun _ => ih _ (by omega) (by omega) (by omega)))
  exact key 4000 0 (by rw [ti_n0]; omega) (by rw [ti_n0]; omega) (by rw [ti_n0]; omega)
theorem m_value (h : MI n B N) : Ok (F_X6_value N p1) (fun q => MI n B q.2) := by
  unfold F_X6_value
  refine ok_b m_in (fun q hq => ?_)
  rw [ti_n0, ti_n9] at hq
  rcases hq with ⟨rfl, hq⟩ | ⟨rfl, hq⟩
  · exact ok_i (fun c => absurd c (by decide)) (fun _ => ok_m (ok_i (fun _ => ok_g (ti_in (by omega) (by rw [show lm 17 = 10 from rfl]; omega)) (ok_s (mi_0 h))) (fun _ => ok_s (mi_0 h))))
  · refine ok_i (fun _ => ok_m (ok_i (fun c => ?_) (fun _ => ok_s (mi_0 h)))) (fun c => absurd rfl c)
    rw [up2_s] at c
    exact absurd c (by decide)
theorem m_log (h : MI n B N) : Ok (F_X6_log N p1) (fun q => MI n B q.2) := by
  unfold F_X6_log
  refine ok_m ?_
  have h0 := mi_0 h (v := 0)
  generalize up2 N 0 0 0 = N0 at h0 ⊢
  have hl := h0.1.lg
  refine ok_b m_in (fun q hq => ?_)
  rw [ti_n0, ti_dec (by omega)] at hq
  rcases hq with ⟨rfl, hq⟩ | ⟨rfl, hq⟩
  · exact ok_i (fun c => absurd c (by decide)) (fun _ => ok_g (ti_in (by omega) (by rw [show lm 23 = 300 from rfl]; omega)) (ok_s h0))
  · exact ok_i (fun _ => ok_s h0) (fun c => absurd rfl c)
theorem m_mail (h : MI n B N) : Ok (F_X6_mail N p1 p2) (fun q => MI n B q.2) := by
  unfold F_X6_mail
  refine ok_m ?_
  have h0 := mi_0 h (v := 0)
  generalize up2 N 0 0 0 = N0 at h0 ⊢
  have h12 := h0.1.1
  refine ok_b (m_isWork h0.1) (fun q hq => ?_)
  rcases hq with ⟨rfl, hw⟩ | ⟨rfl, hw⟩
  · refine ok_i (fun c => absurd c (by decide)) (fun _ => ok_b (m_isWork h0.1) (fun q hq => ?_))
    rcases hq with ⟨rfl, hv⟩ | ⟨rfl, hv⟩
    · have e := m_pair (p1 := p2) (p2 := p1) hv.1 (by omega) hw.1 (by omega)
      exact ok_i (fun c => absurd c (by decide)) (fun _ => ok_g (ti_in (by omega) (by rw [show lm 18 = 144 from rfl]; omega)) (ok_s h0))
    · exact ok_i (fun _ => ok_s h0) (fun c => absurd rfl c)
  · exact ok_i (fun _ => ok_s h0) (fun c => absurd rfl c)
end MG
