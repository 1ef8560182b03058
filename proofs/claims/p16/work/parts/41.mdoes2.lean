section MQ
variable {n : Nat} {N N' : Mem} {p1 p2 c2 : Int32} {B : Int} {w : Nat}
/-- the place of a work's step, and of the want it goes for -/
def dk (N : Mem) (w : Int32) : Int32 := (10 * w) + (N 4 w.toNatClampNeg)
def dwh (N : Mem) (w : Int32) : Int32 := N 13 ((4 * (dk N w)) + (N 5 w.toNatClampNeg)).toNatClampNeg
/-- what does does -/
def DoP (w : Int32) (n : Nat) (N : Mem) (q : Int32 × Mem) : Prop :=
  (q = (0, N) ∧ (w.toInt < 0 ∨ n ≤ w.toInt ∨ N 3 w.toNatClampNeg ≠ 0)) ∨
  ((0 ≤ w.toInt ∧ w.toInt < n) ∧ N 3 w.toNatClampNeg = 0 ∧ ∃ N1, N1 = up2 N 7 w.toNatClampNeg 1 ∧
    (((N1 5 w.toNatClampNeg).toInt < (N1 12 (dk N1 w).toNatClampNeg).toInt ∧ (dwh N1 w).toInt < 100 ∧ ∃ r N2, F_X6_takes N1 w (dwh N1 w) = some (r, N2) ∧ q = (r, up2 N2 6 w.toNatClampNeg r)) ∨
     ((N1 5 w.toNatClampNeg).toInt < (N1 12 (dk N1 w).toNatClampNeg).toInt ∧ 100 ≤ (dwh N1 w).toInt ∧ ∃ r N2, F_X6_hears N1 w (dwh N1 w - 100) = some (r, N2) ∧ q = (r, up2 N2 6 w.toNatClampNeg r)) ∨
     ((N1 12 (dk N1 w).toNatClampNeg).toInt ≤ (N1 5 w.toNatClampNeg).toInt ∧ N1 2 w.toNatClampNeg = N1 4 w.toNatClampNeg ∧ ∃ N2, UdP w 2 n N1 N2 ∧ q = (6, up2 N2 6 w.toNatClampNeg 6)) ∨
     ((N1 12 (dk N1 w).toNatClampNeg).toInt ≤ (N1 5 w.toNatClampNeg).toInt ∧ N1 2 w.toNatClampNeg ≠ N1 4 w.toNatClampNeg ∧ ∃ N2, AcP w n N1 N2 ∧ q = (2, up2 N2 6 w.toNatClampNeg 2))))
theorem mi_7 (h : MI n B N) {v : Int32} {j : Nat} : MI n B (up2 N 7 j v) ∧ Fi n (up2 N 7 j v) = Fi n N ∧ La (up2 N 7 j v) = La N := by
  have l : La (up2 N 7 j v) = La N := la_c (fun i => up2_k (by decide)) (up2_k (by decide))
  refine ⟨⟨h.1.up (tm_f (by decide)), mx_c h.2.1 (fun i => up2_k (by decide)) (fun i => up2_k (by decide)) (fun i => up2_k (by decide)) (cL_c (up2_k (by decide)) (fun k i hk => up2_k (by omega))), by rw [l]; exact h.2.2⟩, fi_c (fun i => up2_k (by decide)) (fun i => up2_k (by decide)) (fun i => up2_k (by decide)) (fun i => up2_k (by decide)), l⟩
theorem mi_6 (h : MI n B N) {v : Int32} {j : Nat} : MI n B (up2 N 6 j v) ∧ Fi n (up2 N 6 j v) = Fi n N ∧ La (up2 N 6 j v) = La N := by
  have l : La (up2 N 6 j v) = La N := la_c (fun i => up2_k (by decide)) (up2_k (by decide))
  refine ⟨⟨h.1.up (tm_f (by decide)), mx_c h.2.1 (fun i => up2_k (by decide)) (fun i => up2_k (by decide)) (fun i => up2_k (by decide)) (cL_c (up2_k (by decide)) (fun k i hk => up2_k (by omega))), by rw [l]; exact h.2.2⟩, fi_c (fun i => up2_k (by decide)) (fun i => up2_k (by decide)) (fun i => up2_k (by decide)) (fun i => up2_k (by decide)), l⟩
theorem m_dk (hM : MT n N) (h0 : 0 ≤ p1.toInt) (h1 : p1.toInt < 12) (hs : (N 4 p1.toNatClampNeg).toInt < 10) : (dk N p1).toInt = 10 * p1.toInt + (N 4 p1.toNatClampNeg).toInt := m_k10 h0 h1 hM.sp.1 hs
theorem m_d4 (hM : MT n N) (h0 : 0 ≤ p1.toInt) (h1 : p1.toInt < 12) (hs : (N 4 p1.toNatClampNeg).toInt < 10) : ((4 * (dk N p1)) + (N 5 p1.toNatClampNeg)).toInt = 4 * (10 * p1.toInt + (N 4 p1.toNatClampNeg).toInt) + (N 5 p1.toNatClampNeg).toInt := by
  have e := m_dk hM h0 h1 hs
  have hg := hM.gt (j := p1.toNatClampNeg)
  have hp := hM.sp (j := p1.toNatClampNeg)
  have e4 : (4 * (dk N p1)).toInt = 4 * (10 * p1.toInt + (N 4 p1.toNatClampNeg).toInt) := by rw [ti_mul (by rw [ti_n4]; omega) (by rw [ti_n4]; omega), ti_n4, e]
  rw [ti_add (by omega) (by omega), e4]
theorem m_does (h : MI n B N) (hB : B ≤ 1000000) : Ok (F_X6_does N p1) (DoP p1 n N) := by
  unfold F_X6_does
  have h12 := h.1.1
  refine ok_b (m_isWork h.1) (fun q hq => ?_)
  rcases hq with ⟨rfl, hw⟩ | ⟨rfl, hw⟩
  · have gw : inb p1 12 = true := ti_in hw.1 (by omega)
    refine ok_i (fun c => absurd c (by decide)) (fun _ => ok_g gw (ok_i (fun hs => ok_g gw (ok_m ?_)) (fun hs => ok_s (Or.inl ⟨rfl, Or.inr (Or.inr hs)⟩))))
    obtain ⟨h7, -, l7⟩ := mi_7 h (v := 1) (j := p1.toNatClampNeg)
    generalize hN7 : up2 N 7 p1.toNatClampNeg 1 = N7 at h7 l7 ⊢
    have s7 : (N7 3 p1.toNatClampNeg).toInt = 0 := by rw [← hN7, up2_k (by decide), hs]; exact ti_n0
    have hst := h7.2.1.1 p1.toNatClampNeg (by rw [ti_cl]; omega) s7
    have hs1 := (h7.1.st (j := p1.toNatClampNeg)).1
    have hs10 : (N7 4 p1.toNatClampNeg).toInt < 10 := by omega
    have hp := h7.1.sp (j := p1.toNatClampNeg)
    have ek := m_dk h7.1 hw.1 (by omega) hs10
    have gk : inb (dk N7 p1) 120 = true := ti_in (by omega) (by omega)
    refine ok_g gw (ok_g gw (ok_g gk (ok_i (fun c => ok_g gw (ok_g gw (ok_i (fun d => ?_) (fun d => ?_)))) (fun c => ok_g gw (ok_g ?_ (ok_i (fun d => ?_) (fun d => ?_)))))))
    · refine ok_be (m_undo h7.1 hw.1 (by omega)) (fun N2 _ h2 => ok_g gw (ok_m (ok_g gw (ok_s ?_))))
      rw [up2_s]
      exact Or.inr ⟨hw, hs, N7, hN7.symm, Or.inr (Or.inr (Or.inl ⟨ti_le.mp c, d, N2, h2, rfl⟩))⟩
    · refine ok_be (m_acts h7.1 hB h7.2.2 hw.1 (by omega) hs10 (by have := h7.room; omega)) (fun N2 _ h2 => ok_g gw (ok_m (ok_g gw (ok_s ?_))))
      rw [up2_s]
      exact Or.inr ⟨hw, hs, N7, hN7.symm, Or.inr (Or.inr (Or.inr ⟨ti_le.mp c, d, N2, h2, rfl⟩))⟩
    · have e4 := m_d4 h7.1 hw.1 (by omega) hs10
      have hg := h7.1.gt (j := p1.toNatClampNeg)
      have hwc := h7.1.wc (j := (dk N7 p1).toNatClampNeg)
      unfold dk at e4 hwc
      rw [ti_le] at c
      exact ti_in (by omega) (by rw [show lm 13 = 480 from rfl]; omega)
    · have hwt := h7.1.wt (j := ((4 * (dk N7 p1)) + (N7 5 p1.toNatClampNeg)).toNatClampNeg)
      have d' : 100 ≤ (dwh N7 p1).toInt := by rw [ti_le, ti_n100] at d; exact d
      have hwt' : (dwh N7 p1).toInt ≤ 111 := by unfold dwh at d' ⊢; omega
      have es : (dwh N7 p1 - 100).toInt = (dwh N7 p1).toInt - 100 := by rw [ti_sub (by rw [ti_n100]; omega) (by rw [ti_n100]; omega), ti_n100]
      refine ok_be (m_hears (p2 := dwh N7 p1 - 100) hw.1 (by omega) (by omega) (by omega)) (fun q e2 h2 => ok_g gw (ok_m (ok_g gw (ok_s ?_))))
      rw [up2_s]
      rw [ti_le] at c
      exact Or.inr ⟨hw, hs, N7, hN7.symm, Or.inr (Or.inl ⟨by unfold dk; omega, d', q.1, q.2, e2, rfl⟩)⟩
    · have hwt := h7.1.wt (j := ((4 * (dk N7 p1)) + (N7 5 p1.toNatClampNeg)).toNatClampNeg)
      have d' : (dwh N7 p1).toInt < 100 := by rw [ti_le, ti_n100] at d; unfold dwh dk; omega
      have hwt' : 0 ≤ (dwh N7 p1).toInt ∧ (dwh N7 p1).toInt ≤ 9 := by unfold dwh at d' ⊢; omega
      refine ok_be (m_takes (p2 := dwh N7 p1) h7.1 hw.1 (by omega) (by omega) (by omega)) (fun q e2 h2 => ok_g gw (ok_m (ok_g gw (ok_s ?_))))
      rw [up2_s]
      rw [ti_le] at c
      exact Or.inr ⟨hw, hs, N7, hN7.symm, Or.inl ⟨by unfold dk; omega, d', q.1, q.2, e2, rfl⟩⟩
  · exact ok_i (fun _ => ok_s (Or.inl ⟨rfl, by omega⟩)) (fun c => absurd rfl c)
/-- a turn keeps what must be kept, and goes on -/
def on1 (r : Int32) : Int := if r = 0 ∨ r = 3 ∨ r = 4 then 0 else 1
theorem mi_got (h : MI n B N) (hw : w < n) (hs : (N 3 w).toInt = 0) (hM' : MT n N') (e1 : ∀ j, N' 1 j = N 1 j) (e3 : ∀ j, N' 3 j = N 3 j) (e4 : ∀ j, N' 4 j = N 4 j) (e5 : ∀ j, j ≠ w → N' 5 j = N 5 j) (g : (N' 5 w).toInt = (N 5 w).toInt + 1) (ec : cL N' = cL N) (l : La N' = La N) : MI n B N' ∧ Fi n N' + 1 = Fi n N ∧ La N' = La N := by
  have h12 := h.1.1
  have c := h.2.1.2.2 w (by omega)
  have st := mx_step (N' := N') h.2.1 hw h12 e1 (fun j hj => ⟨e3 j, e4 j, e5 j hj⟩) (fun _ => by rw [e4]; exact h.2.1.1 w hw hs) (fun v _ _ => by rw [ec]; exact Nat.le_refl _) (by rw [ec, e3, e4]; exact c)
  refine ⟨⟨hM', st.1, by rw [l]; exact h.2.2⟩, ?_, l⟩
  rw [st.2]
  unfold fi
  rw [e3, e4, e1, g, if_pos hs, if_pos hs]
  omega
theorem m_doI (h : MI n B N) (hB : B ≤ 1000000) {q : Int32 × Mem} (hq : DoP p1 n N q) : MI n B q.2 ∧ Fi n q.2 + La q.2 + on1 q.1 ≤ Fi n N + La N := by
  have h12 := h.1.1
  rcases hq with ⟨rfl, -⟩ | ⟨hw, hs, N1, hN1, hq⟩
  · exact ⟨h, by simp [on1]⟩
  · obtain ⟨h7, f7, l7⟩ := mi_7 h (v := 1) (j := p1.toNatClampNeg)
    rw [← hN1] at h7 f7 l7
    have hwn : p1.toNatClampNeg < n := by rw [ti_cl]; omega
    have s7 : (N1 3 p1.toNatClampNeg).toInt = 0 := by rw [hN1, up2_k (by decide), hs]; exact ti_n0
    have hst := h7.2.1.1 p1.toNatClampNeg hwn s7
    have hs1 := (h7.1.st (j := p1.toNatClampNeg)).1
    have hs10 : (N1 4 p1.toNatClampNeg).toInt < 10 := by omega
    have hwc := h7.1.wc (j := (dk N1 p1).toNatClampNeg)
    have hg0 := h7.1.gt (j := p1.toNatClampNeg)
    rcases hq with ⟨c, d, r, N2, e, rfl⟩ | ⟨c, d, r, N2, e, rfl⟩ | ⟨c, d, N2, hu, rfl⟩ | ⟨c, d, N2, ha, rfl⟩
    · have hwt := h7.1.wt (j := ((4 * (dk N1 p1)) + (N1 5 p1.toNatClampNeg)).toNatClampNeg)
      have hwt' : 0 ≤ (dwh N1 p1).toInt ∧ (dwh N1 p1).toInt ≤ 9 := by unfold dwh at d ⊢; omega
      obtain ⟨q', e', hq'⟩ := m_takes (p2 := dwh N1 p1) h7.1 hw.1 (by omega) (by omega) (by omega)
      rw [e] at e'
      cases Option.some.inj e'
      have eg := ti_inc (a := N1 5 p1.toNatClampNeg) (by omega)
      have ew := ti_inc (a := p1) (by omega)
      have ec := ti_inc (a := dwh N1 p1) (by omega)
      rcases hq' with hq' | hq' | hq'
      · cases hq'
        obtain ⟨m, f, l⟩ := mi_got (N' := tkN N1 p1 (dwh N1 p1)) h7 hwn s7 (((h7.1.up (tm_ow (by omega))).up (tm_wf (by rw [ti_n0]; omega))).up (tm_gt (by omega))) (fun j => by unfold tkN; rw [up2_k (by decide), up2_k (by decide), up2_k (by decide)]) (fun j => by unfold tkN; rw [up2_k (by decide), up2_k (by decide), up2_k (by decide)]) (fun j => by unfold tkN; rw [up2_k (by decide), up2_k (by decide), up2_k (by decide)]) (fun j hj => by unfold tkN; rw [up2_j hj, up2_k (by decide), up2_k (by decide)]) (by unfold tkN; rw [up2_s, eg]) (by
          unfold tkN
          refine cL_c ?_ (fun k j hk => ?_)
          · rw [up2_k (by decide), up2_k (by decide), up2_k (by decide)]
          · rw [up2_k (by omega), up2_k (by omega), up2_k (by omega)]) (by
          unfold tkN
          refine la_c (fun j => ?_) ?_
          · rw [up2_k (by decide), up2_k (by decide), up2_k (by decide)]
          · rw [up2_k (by decide), up2_k (by decide), up2_k (by decide)])
        obtain ⟨m6, f6, l6⟩ := mi_6 m (v := 1) (j := p1.toNatClampNeg)
        refine ⟨m6, ?_⟩
        rw [f6, l6, show on1 1 = 1 by decide]
        omega
      · cases hq'
        obtain ⟨m6, f6, l6⟩ := mi_6 h7 (v := 3) (j := p1.toNatClampNeg)
        refine ⟨m6, ?_⟩
        rw [f6, l6, show on1 3 = 0 by decide]
        omega
      · cases hq'
        have l9 : La (waN N1 p1 (dwh N1 p1)) = La N1 := by
          unfold waN
          refine la_c (fun j => ?_) ?_
          · rw [up2_k (by decide), up2_k (by decide), up2_k (by decide)]
          · rw [up2_j (by decide), up2_k (by decide), up2_k (by decide)]
        have m : MI n B (waN N1 p1 (dwh N1 p1)) := by
          refine ⟨((h7.1.up (tm_wf (by omega))).up (tm_f (by decide))).up (tm_z (by decide)), ?_, by rw [l9]; exact h7.2.2⟩
          unfold waN
          refine mx_c h7.2.1 (fun j => ?_) (fun j => ?_) (fun j => ?_) (cL_c ?_ (fun k j hk => ?_))
          · rw [up2_k (by decide), up2_k (by decide), up2_k (by decide)]
          · rw [up2_k (by decide), up2_k (by decide), up2_k (by decide)]
          · rw [up2_k (by decide), up2_k (by decide), up2_k (by decide)]
          · rw [up2_j (by decide), up2_k (by decide), up2_k (by decide)]
          · rw [up2_k (by omega), up2_k (by omega), up2_k (by omega)]
        have f9 : Fi n (waN N1 p1 (dwh N1 p1)) = Fi n N1 := by
          unfold waN
          refine fi_c (fun j => ?_) (fun j => ?_) (fun j => ?_) (fun j => ?_)
          · rw [up2_k (by decide), up2_k (by decide), up2_k (by decide)]
          · rw [up2_k (by decide), up2_k (by decide), up2_k (by decide)]
          · rw [up2_k (by decide), up2_k (by decide), up2_k (by decide)]
          · rw [up2_k (by decide), up2_k (by decide), up2_k (by decide)]
        obtain ⟨m6, f6, l6⟩ := mi_6 m (v := 3) (j := p1.toNatClampNeg)
        refine ⟨m6, ?_⟩
        rw [f6, l6, show on1 3 = 0 by decide]
        omega
    · have hwt := h7.1.wt (j := ((4 * (dk N1 p1)) + (N1 5 p1.toNatClampNeg)).toNatClampNeg)
      have hwt' : (dwh N1 p1).toInt ≤ 111 := by unfold dwh at d ⊢; omega
      have es : (dwh N1 p1 - 100).toInt = (dwh N1 p1).toInt - 100 := by rw [ti_sub (by rw [ti_n100]; omega) (by rw [ti_n100]; omega), ti_n100]
      obtain ⟨q', e', hq'⟩ := m_hears (N := N1) (p2 := dwh N1 p1 - 100) hw.1 (by omega) (by omega) (by omega)
      have ep := m_pair (p1 := p1) (p2 := dwh N1 p1 - 100) hw.1 (by omega) (by omega) (by omega)
      generalize 12 * (dwh N1 p1 - 100) + p1 = k at hq' ep
      have hk : k.toNatClampNeg < 144 := by rw [ti_cl]; omega
      rw [e] at e'
      cases Option.some.inj e'
      have eg := ti_inc (a := N1 5 p1.toNatClampNeg) (by omega)
      rcases hq' with ⟨hq', hx⟩ | ⟨hq', hx⟩ | ⟨hq', hx⟩
      · cases hq'
        obtain ⟨m, f, l⟩ := mi_got (N' := hdN N1 p1 k) h7 hwn s7 ((h7.1.up (tm_f (by decide))).up (tm_gt (by omega))) (fun j => by unfold hdN; rw [up2_k (by decide), up2_k (by decide)]) (fun j => by unfold hdN; rw [up2_k (by decide), up2_k (by decide)]) (fun j => by unfold hdN; rw [up2_k (by decide), up2_k (by decide)]) (fun j hj => by unfold hdN; rw [up2_j hj, up2_k (by decide)]) (by unfold hdN; rw [up2_s, eg]) (by
          unfold hdN
          refine cL_c ?_ (fun k j hk => ?_)
          · rw [up2_k (by decide), up2_k (by decide)]
          · rw [up2_k (by omega), up2_k (by omega)]) (by
          unfold hdN
          refine la_c (fun j => ?_) ?_
          · rw [up2_k (by decide), up2_k (by decide)]
          · rw [up2_k (by decide), up2_k (by decide)])
        obtain ⟨m6, f6, l6⟩ := mi_6 m (v := 1) (j := p1.toNatClampNeg)
        refine ⟨m6, ?_⟩
        rw [f6, l6, show on1 1 = 1 by decide]
        omega
      · cases hq'
        obtain ⟨m6, f6, l6⟩ := mi_6 h7 (v := 4) (j := p1.toNatClampNeg)
        refine ⟨m6, ?_⟩
        rw [f6, l6, show on1 4 = 0 by decide]
        omega
      · cases hq'
        have hls := h7.1.ls (j := k.toNatClampNeg)
        have ed := ti_dec (a := N1 19 k.toNatClampNeg) (by omega)
        have l9 : La (asN N1 p1 k) = La N1 - 1 := by
          unfold La asN
          rw [sm_u (f := fun k => (N1 19 k).toInt) (k := k.toNatClampNeg) 144 hk (fun i _ hi => by rw [up2_k (by decide), up2_k (by decide), up2_j hi])]
          rw [up2_k (show (19 : Nat) ≠ 8 by decide), up2_k (show (19 : Nat) ≠ 18 by decide), up2_s, ed, up2_k (show (0 : Nat) ≠ 8 by decide), up2_k (show (0 : Nat) ≠ 18 by decide), up2_k (show (0 : Nat) ≠ 19 by decide)]
          omega
        have m : MI n B (asN N1 p1 k) := by
          refine ⟨((h7.1.up (tm_ls (by omega))).up (tm_f (by decide))).up (tm_f (by decide)), ?_, by have := h7.2.2; omega⟩
          unfold asN
          refine mx_c h7.2.1 (fun j => ?_) (fun j => ?_) (fun j => ?_) (cL_c ?_ (fun k j hk => ?_))
          · rw [up2_k (by decide), up2_k (by decide), up2_k (by decide)]
          · rw [up2_k (by decide), up2_k (by decide), up2_k (by decide)]
          · rw [up2_k (by decide), up2_k (by decide), up2_k (by decide)]
          · rw [up2_k (by decide), up2_k (by decide), up2_k (by decide)]
          · rw [up2_k (by omega), up2_k (by omega), up2_k (by omega)]
        have f9 : Fi n (asN N1 p1 k) = Fi n N1 := by
          unfold asN
          refine fi_c (fun j => ?_) (fun j => ?_) (fun j => ?_) (fun j => ?_)
          · rw [up2_k (by decide), up2_k (by decide), up2_k (by decide)]
          · rw [up2_k (by decide), up2_k (by decide), up2_k (by decide)]
          · rw [up2_k (by decide), up2_k (by decide), up2_k (by decide)]
          · rw [up2_k (by decide), up2_k (by decide), up2_k (by decide)]
        obtain ⟨m6, f6, l6⟩ := mi_6 m (v := 5) (j := p1.toNatClampNeg)
        refine ⟨m6, ?_⟩
        rw [f6, l6, show on1 5 = 1 by decide]
        omega
    · obtain ⟨m, f, l⟩ := h7.undo hw.1 hw.2 hu (by decide)
      have h6 := h7.fi6 hwn s7
      obtain ⟨m6, f6, l6⟩ := mi_6 m (v := 6) (j := p1.toNatClampNeg)
      refine ⟨m6, ?_⟩
      rw [f6, l6, show on1 6 = 1 by decide]
      omega
    · obtain ⟨hM2, l2, g1, g2, g4, g5, g6⟩ := ha.f hs10
      have hww : p1 = nI p1.toNatClampNeg := by rw [ti_eq, ti_nI (by rw [ti_cl]; omega), ti_cl]; omega
      have cc := h7.2.1.2.2 p1.toNatClampNeg (by omega)
      rw [if_pos s7, ← hww] at cc
      have ne : ∀ v : Nat, v < 12 → v ≠ p1.toNatClampNeg → nI v ≠ p1 := by
        intro v hv hne q
        rw [ti_eq, ti_nI (by omega)] at q
        rw [ti_cl] at hne
        omega
      have st := mx_step (N' := N2) (w := p1.toNatClampNeg) h7.2.1 hwn h12 g1 g2 (fun q => by
        rcases g6 with ⟨-, x, -⟩ | ⟨x, -, -⟩
        · rw [x] at q; exact absurd q (by decide)
        · omega) (fun v hv hne => by
        have nv := ne v hv hne
        rcases g6 with ⟨-, -, x⟩ | ⟨-, -, x⟩
        · rw [x]
          refine Nat.le_trans cw_le ?_
          rw [cw_app, cw_own nv]
          omega
        · rw [x, cw_app, cw_own nv]
          omega) (by
        rw [← hww]
        rcases g6 with ⟨-, y, x⟩ | ⟨-, y, x⟩
        · rw [x, cw_fl, if_pos rfl, y, if_neg (by decide)]
          exact Int.le_refl 0
        · rw [x, cw_app, y, if_pos s7, g4]
          have := cw_ow2 (u := p1) (N := N1) (i := 10)
          omega)
      have m : MI n B N2 := ⟨hM2, st.1, by rw [l2]; exact h7.2.2⟩
      obtain ⟨m6, f6, l6⟩ := mi_6 m (v := 2) (j := p1.toNatClampNeg)
      refine ⟨m6, ?_⟩
      rw [f6, l6, st.2, l2, show on1 2 = 1 by decide]
      have x1 : fi N2 p1.toNatClampNeg + 5 ≤ fi N1 p1.toNatClampNeg := by
        unfold fi
        rw [if_pos s7, g4, g5, ti_n0, g1]
        split <;> omega
      omega
end MQ
