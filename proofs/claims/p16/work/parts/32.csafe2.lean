section CT
variable {n : Nat} {M : Mem} {w : Nat} {p1 p2 p3 p4 : Int32}
theorem wk_f (hw : wok w) : ∃ i : Nat, i < 12 ∧ w = 16 + 7 * i := hw
theorem s_gotAll (hM : CI n M) (hw : wok w) : Ok (F_X4_gotAll M w) (fun _ => True) := by
  unfold F_X4_gotAll
  exact ok_b (s_count (rw_w1 hw) hM) (fun q _ => ok_i (fun _ => ok_s trivial) (fun _ => ok_s trivial))
theorem s_beginAgain (hM : CI n M) (hw : wok w) : Ok (F_X4_beginAgain M w) (CI n) := by
  unfold F_X4_beginAgain
  refine ok_m (ok_m (ok_m (ok_m (ok_m (ok_m (ok_s ?_))))))
  exact CI.up (CI.up (CI.up (CI.up (CI.up (CI.up hM (tc_w hw (by decide))) (tc_w hw (by decide))) (tc_w hw (by decide))) (tc_w hw (by decide))) (tc_w hw (by decide))) (tc_w hw (by decide))
theorem s_isWay : Ok (F_X1_isWay M p1) (fun q => q.toInt = 0 ∨ (0 ≤ p1.toInt ∧ p1.toInt < 144)) := by
  unfold F_X1_isWay
  refine ok_i (fun c => ok_s (Or.inl ti_n0)) (fun c => ok_i (fun d => ok_s (Or.inl ti_n0)) (fun d => ok_i (fun e => ok_s (Or.inl ti_n0)) (fun e => ok_s (Or.inr ?_))))
  rw [ti_lt, ti_n0] at c
  rw [ti_le, show ln 10 = 144 from rfl, ti_nI (by omega)] at d
  omega
theorem s_countThere : Ok (F_X1_countThere M p1) (fun _ => True) := by
  unfold F_X1_countThere
  refine ok_b s_isWay (fun q hq => ok_i (fun _ => ok_s trivial) (fun c => ?_))
  rw [ti_eq, ti_n0] at c
  have h := hq.resolve_left c
  exact ok_g (ti_in h.1 (by rw [show ln 10 = 144 from rfl]; omega)) (ok_s trivial)
theorem s_send (hM : CI n M) : Ok (F_X1_send M p1) (CI n) := by
  unfold F_X1_send
  refine ok_b s_isWay (fun q hq => ok_i (fun _ => ok_s hM) (fun c => ?_))
  rw [ti_eq, ti_n0] at c
  have h := hq.resolve_left c
  have g0 : inb p1 (ln 10) = true := ti_in h.1 (by rw [show ln 10 = 144 from rfl]; omega)
  have g1 : inb p1 (ln 11) = true := g0
  exact ok_i (fun _ => ok_g g0 (ok_g g0 (ok_m (ok_s (hM.up (tc_f (by decide))))))) (fun _ => ok_m (ok_g g1 (ok_g g1 (ok_m (ok_s ((hM.up (tc_f (by decide))).up (tc_f (by decide))))))))
theorem s_ptake (hM : CI n M) : Ok (F_X1_take M p1) (fun q => CI n q.2) := by
  unfold F_X1_take
  refine ok_b s_isWay (fun q hq => ok_i (fun _ => ok_s hM) (fun c => ?_))
  rw [ti_eq, ti_n0] at c
  have h := hq.resolve_left c
  have g0 : inb p1 (ln 10) = true := ti_in h.1 (by rw [show ln 10 = 144 from rfl]; omega)
  exact ok_g g0 (ok_i (fun _ => ok_g g0 (ok_g g0 (ok_m (ok_s (hM.up (tc_f (by decide))))))) (fun _ => ok_s hM))
theorem s_findLost (hM : CI n M) : Ok (F_X1_findLost M p1) (fun q => CI n q.2) := by
  unfold F_X1_findLost
  refine ok_b s_isWay (fun q hq => ok_i (fun _ => ok_s hM) (fun c => ?_))
  rw [ti_eq, ti_n0] at c
  have h := hq.resolve_left c
  have g0 : inb p1 (ln 10) = true := ti_in h.1 (by rw [show ln 10 = 144 from rfl]; omega)
  have g1 : inb p1 (ln 11) = true := g0
  exact ok_g g1 (ok_i (fun _ => ok_g g1 (ok_g g1 (ok_m (ok_g g0 (ok_g g0 (ok_m (ok_s ((hM.up (tc_f (by decide))).up (tc_f (by decide)))))))))) (fun _ => ok_s hM))
theorem s_write (hM : CI n M) : Ok (F_X0_write M p1 p2) (CI n) := by
  unfold F_X0_write
  exact ok_b (s_add rw_13 hM) (fun q h => ok_s h)
theorem s_isFreeFor (hM : CI n M) (h0 : 0 ≤ p1.toInt) (h1 : p1.toInt < 10) : Ok (F_X3_isFreeFor M p1 p2) (fun _ => True) := by
  unfold F_X3_isFreeFor
  exact ok_b (s_item rw_6 hM) (fun q _ => ok_g (ti_in h0 (by rw [show ln 5 = 10 from rfl]; omega)) (ok_i (fun _ => ok_i (fun _ => ok_s trivial) (fun _ => ok_i (fun _ => ok_s trivial) (fun _ => ok_s trivial))) (fun _ => ok_s trivial)))
theorem s_take (hM : CI n M) (h0 : 0 ≤ p1.toInt) (h1 : p1.toInt < 10) (a0 : 0 ≤ p2.toInt) (a1 : p2.toInt < 12) : Ok (F_X3_take M p1 p2) (CI n) := by
  unfold F_X3_take
  have g : inb p1 10 = true := ti_in h0 (by omega)
  exact ok_b (s_remove rw_6 hM) (fun q hq => ok_g g (ok_m (ok_g g (ok_g g (ok_m (ok_s ((hq.up (tc_5 (by omega) (by omega))).up (tc_f (by decide)))))))))
theorem s_standInLine (hM : CI n M) : Ok (F_X3_standInLine M p1 p2) (CI n) := by
  unfold F_X3_standInLine
  exact ok_b (s_placeOf rw_6 hM) (fun q _ => ok_i (fun _ => ok_b (s_add rw_6 hM) (fun q h => ok_s h)) (fun _ => ok_s hM))
theorem s_change (hM : CI n M) : Ok (F_X3_change M p1 p2) (CI n) := by
  unfold F_X3_change
  have key : ∀ (f : Nat) (M : Mem) (v : Int32), CI n M → 0 ≤ v.toInt → v.toInt ≤ 10 → 10 - v.toInt < f → Ok (L_X3_change_2 (fun M_1 v3_2 => some M_1) p1 p2 f M v) (CI n) := by
    intro f
    induction f with
    | zero => intro M v _ h0 h1 h2; omega
    | succ f ih =>
      intro M v hM h0 h1 h2
      rw [L_X3_change_2]
      refine ok_i (fun c => ok_s hM) (fun c => ?_)
      rw [ti_le, ti_n10] at c
      have e1 := ti_inc (a := v) (by omega)
      have g : inb v 10 = true := ti_in h0 (by omega)
      exact ok_g g (ok_i (fun _ => ok_g g (ok_g g (ok_m (ih _ _ (hM.up (tc_f (by decide))) (by omega) (by omega) (by omega))))) (fun _ => ih _ _ hM (by omega) (by omega) (by omega)))
  exact key 4000 M 0 hM (by rw [ti_n0]; omega) (by rw [ti_n0]; omega) (by rw [ti_n0]; omega)
theorem s_restore (hM : CI n M) : Ok (F_X3_restore M p1) (CI n) := by
  unfold F_X3_restore
  have key : ∀ (f : Nat) (M : Mem) (v : Int32), CI n M → 0 ≤ v.toInt → v.toInt ≤ 10 → 10 - v.toInt < f → Ok (L_X3_restore_2 (fun M_1 v2_2 => some M_1) p1 f M v) (CI n) := by
    intro f
    induction f with
    | zero => intro M v _ h0 h1 h2; omega
    | succ f ih =>
      intro M v hM h0 h1 h2
      rw [L_X3_restore_2]
      refine ok_i (fun c => ok_s hM) (fun c => ?_)
      rw [ti_le, ti_n10] at c
      have e1 := ti_inc (a := v) (by omega)
      have g : inb v 10 = true := ti_in h0 (by omega)
      exact ok_g g (ok_i (fun _ => ok_g g (ok_g g (ok_m (ih _ _ (hM.up (tc_f (by decide))) (by omega) (by omega) (by omega))))) (fun _ => ih _ _ hM (by omega) (by omega) (by omega)))
  exact key 4000 M 0 hM (by rw [ti_n0]; omega) (by rw [ti_n0]; omega) (by rw [ti_n0]; omega)
theorem s_release (hM : CI n M) : Ok (F_X3_release M p1) (CI n) := by
  unfold F_X3_release
  have key : ∀ (f : Nat) (M : Mem) (v : Int32), CI n M → 0 ≤ v.toInt → v.toInt ≤ 10 → 10 - v.toInt < f → Ok (L_X3_release_2 (fun M_1 v2_2 => some M_1) p1 f M v) (CI n) := by
    intro f
    induction f with
    | zero => intro M v _ h0 h1 h2; omega
    | succ f ih =>
      intro M v hM h0 h1 h2
      rw [L_X3_release_2]
      refine ok_i (fun c => ok_s hM) (fun c => ?_)
      rw [ti_le, ti_n10] at c
      have e1 := ti_inc (a := v) (by omega)
      have g : inb v 10 = true := ti_in h0 (by omega)
      exact ok_b (s_remove rw_6 hM) (fun q hq => ok_g g (ok_i (fun _ => ok_g g (ok_m (ih _ _ (hq.up (tc_5 (by rw [ti_m1]; omega) (by rw [ti_m1]; omega))) (by omega) (by omega) (by omega)))) (fun _ => ih _ _ hq (by omega) (by omega) (by omega))))
  exact key 4000 M 0 hM (by rw [ti_n0]; omega) (by rw [ti_n0]; omega) (by rw [ti_n0]; omega)
theorem s_countOf : Ok (F_X3_countOf M p1) (fun _ => True) := by
  unfold F_X3_countOf
  have key : ∀ (f : Nat) (u v : Int32), 0 ≤ v.toInt → v.toInt ≤ 10 → 10 - v.toInt < f → Ok (L_X3_countOf_4 (fun v2_4 v3_4 => some v2_4) M p1 f u v) (fun _ => True) := by
    intro f
    induction f with
    | zero => intro u v h0 h1 h2; omega
    | succ f ih =>
      intro u v h0 h1 h2
      rw [L_X3_countOf_4]
      refine ok_i (fun c => ok_s trivial) (fun c => ?_)
      rw [ti_le, ti_n10] at c
      have e1 := ti_inc (a := v) (by omega)
      have g : inb v 10 = true := ti_in h0 (by omega)
      exact ok_g g (ok_i (fun _ => ih _ _ (by omega) (by omega) (by omega)) (fun _ => ih _ _ (by omega) (by omega) (by omega)))
  exact key 4000 0 0 (by rw [ti_n0]; omega) (by rw [ti_n0]; omega) (by rw [ti_n0]; omega)
theorem s_awaited (hM : CI n M) : Ok (F_X3_holderAwaitedBy M p1) (fun q => -1 ≤ q.toInt ∧ q.toInt ≤ 11) := by
  unfold F_X3_holderAwaitedBy
  have key : ∀ (f : Nat) (v : Int32), 0 ≤ v.toInt → v.toInt ≤ 10 → 10 - v.toInt < f → Ok (L_X3_holderAwaitedBy_2 (fun v2_2 => some (-1)) M p1 f v) (fun q => -1 ≤ q.toInt ∧ q.toInt ≤ 11) := by
    intro f
    induction f with
    | zero => intro v h0 h1 h2; omega
    | succ f ih =>
      intro v h0 h1 h2
      rw [L_X3_holderAwaitedBy_2]
      refine ok_i (fun c => ok_s (by rw [ti_m1]; omega)) (fun c => ?_)
      rw [ti_le, ti_n10] at c
      have e1 := ti_inc (a := v) (by omega)
      have g : inb v 10 = true := ti_in h0 (by omega)
      exact ok_b (s_placeOf rw_6 hM) (fun q hq => ok_i (fun _ => ih _ (by omega) (by omega) (by omega)) (fun _ => ok_g g (ok_s hM.hold)))
  exact key 4000 0 (by rw [ti_n0]; omega) (by rw [ti_n0]; omega) (by rw [ti_n0]; omega)
theorem s_isWork (hM : CI n M) : Ok (F_X5_isWork M p1) (fun q => q.toInt = 0 ∨ (0 ≤ p1.toInt ∧ p1.toInt < n)) := by
  unfold F_X5_isWork
  refine ok_i (fun c => ok_s (Or.inl ti_n0)) (fun c => ok_i (fun d => ok_s (Or.inl ti_n0)) (fun d => ok_s (Or.inr ?_)))
  rw [ti_lt, ti_n0] at c
  rw [ti_le, hM.cnt] at d
  omega
theorem s_find (hM : CI n M) : Ok (F_X5_find M p1) (fun q => q = none ∨ ∃ w, q = some w ∧ wok w) := by
  unfold F_X5_find
  refine ok_b (s_isWork hM) (fun q hq => ok_i (fun _ => ok_s (Or.inl rfl)) (fun c => ?_))
  rw [ti_eq, ti_n0] at c
  have h := hq.resolve_left c
  have h12 := hM.1
  exact ok_g (ti_in h.1 (by omega)) (ok_s (Or.inr ⟨_, rfl, wok.of (by rw [ti_cl]; omega)⟩))
theorem s_isOther (hM : CI n M) : Ok (F_X5_isOther M p1 p2) (fun _ => True) := by
  unfold F_X5_isOther
  exact ok_b (s_isWork hM) (fun q _ => ok_i (fun _ => ok_s trivial) (fun _ => ok_i (fun _ => ok_s trivial) (fun _ => ok_s trivial)))
theorem s_isCopy : Ok (F_X5_isCopy M p1) (fun q => q.toInt = 0 ∨ (0 ≤ p1.toInt ∧ p1.toInt < 10)) := by
  unfold F_X5_isCopy
  refine ok_i (fun c => ok_s (Or.inl ti_n0)) (fun c => ok_i (fun d => ok_s (Or.inl ti_n0)) (fun d => ok_s (Or.inr ?_)))
  rw [ti_lt, ti_n0] at c
  rw [ti_le, ti_n10] at d
  omega
theorem s_isWaiting : Ok (F_X5_isWaiting M p1) (fun _ => True) := by
  unfold F_X5_isWaiting
  exact ok_i (fun _ => ok_s trivial) (fun _ => ok_i (fun _ => ok_s trivial) (fun _ => ok_s trivial))
theorem s_isStep : Ok (F_X4_isStep M w p1) (fun _ => True) := by
  unfold F_X4_isStep
  exact ok_i (fun _ => ok_s trivial) (fun _ => ok_i (fun _ => ok_s trivial) (fun _ => ok_s trivial))
theorem s_undo (hM : CI n M) (hw : wok w) : Ok (F_X5_undo M w p2) (CI n) := by
  unfold F_X5_undo
  exact ok_b (s_restore hM) (fun q h => ok_b (s_release h) (fun q h => ok_m (ok_s (h.up (tc_w hw (by decide))))))
theorem s_sendAll (hM : CI n M) (hw : wok w) : Ok (F_X5_sendAll M w) (CI n) := by
  unfold F_X5_sendAll
  refine ok_b (s_count (rw_w4 hw) hM) (fun q hq => ?_)
  have key : ∀ (f : Nat) (M : Mem) (v : Int32), CI n M → 0 ≤ v.toInt → v.toInt ≤ 2 → 2 - v.toInt < f → Ok (L_X5_sendAll_14 (fun M_3 v3_14 => some M_3) q w f M v) (CI n) := by
    intro f
    induction f with
    | zero => intro M v _ h0 h1 h2; omega
    | succ f ih =>
      intro M v hM h0 h1 h2
      rw [L_X5_sendAll_14]
      refine ok_i (fun c => ok_s hM) (fun c => ?_)
      rw [ti_le] at c
      have e1 := ti_inc (a := v) (by omega)
      exact ok_b (s_item (rw_w4 hw) hM) (fun q5 _ => ok_b (P := fun _ => True) (ok_s trivial) (fun q7 _ => ok_b (s_send hM) (fun q9 h9 => ih _ _ h9 (by omega) (by omega) (by omega))))
  exact key 4000 M 0 hM (by rw [ti_n0]; omega) (by rw [ti_n0]; omega) (by rw [ti_n0]; omega)
theorem s_goForMessage (hM : CI n M) (hw : wok w) : Ok (F_X5_goForMessage M w p2) (fun q => CI n q.2) := by
  unfold F_X5_goForMessage
  exact ok_b (P := fun _ => True) (ok_s trivial) (fun q _ => ok_b (s_ptake hM) (fun q3 h3 => ok_i (fun _ => ok_b (s_findLost h3) (fun q7 h7 => ok_i (fun _ => ok_s h7) (fun _ => ok_m (ok_s (h7.up (tc_w hw (by decide))))))) (fun _ => ok_s h3)))
theorem s_goForCopy (hM : CI n M) (hw : wok w) (h0 : 0 ≤ p2.toInt) (h1 : p2.toInt < 10) : Ok (F_X5_goForCopy M w p2) (fun q => CI n q.2) := by
  unfold F_X5_goForCopy
  obtain ⟨i, hi, rfl, e⟩ := hM.num hw
  have g : inb p2 10 = true := ti_in h0 (by omega)
  exact ok_g g (ok_i (fun _ => ok_s hM) (fun _ => ok_b (s_isFreeFor hM h0 h1) (fun q _ => ok_i (fun _ => ok_b (s_standInLine hM) (fun q h => ok_s h)) (fun _ => ok_b (s_take hM h0 h1 (by omega) (by omega)) (fun q h => ok_s h)))))
theorem s_goForNext (hM : CI n M) (hw : wok w) : Ok (F_X5_goForNext M w) (fun q => CI n q.2) := by
  unfold F_X5_goForNext
  refine ok_b (s_item (rw_w1 hw) hM) (fun q1 _ => ok_b s_isCopy (fun q3 h3 => ok_i (fun _ => ok_b (s_goForMessage hM hw) (fun q6 h6 => ok_i (fun _ => ok_m (ok_s (h6.up (tc_w hw (by decide))))) (fun _ => ok_s h6))) (fun c => ?_)))
  rw [ti_eq, ti_n0] at c
  have h := h3.resolve_left c
  exact ok_b (s_goForCopy hM hw h.1 h.2) (fun q6 h6 => ok_i (fun _ => ok_m (ok_s (h6.up (tc_w hw (by decide))))) (fun _ => ok_s h6))
theorem s_actOrFail (hM : CI n M) (hw : wok w) : Ok (F_X5_actOrFail M w) (fun q => CI n q.2) := by
  unfold F_X5_actOrFail
  exact ok_i (fun _ => ok_b (s_undo hM hw) (fun q h => ok_s h)) (fun _ => ok_b (s_change hM) (fun q2 h2 => ok_b (s_write h2) (fun q5 h5 => ok_b (s_sendAll h5 hw) (fun q8 h8 => ok_m (ok_m (ok_i (fun _ => ok_s ((h8.up (tc_w hw (by decide))).up (tc_w hw (by decide)))) (fun _ => ok_m (ok_b (s_release (((h8.up (tc_w hw (by decide))).up (tc_w hw (by decide))).up (tc_w hw (by decide)))) (fun q h => ok_s h)))))))))
theorem s_takeTurn (hM : CI n M) (hw : wok w) : Ok (F_X5_takeTurn M w) (fun q => CI n q.2) := by
  unfold F_X5_takeTurn
  have h2 : CI n (up2 M w 10 1) := hM.up (tc_w hw (by decide))
  exact ok_i (fun _ => ok_m (ok_b (s_gotAll h2 hw) (fun q3 _ => ok_i (fun _ => ok_b (s_goForNext h2 hw) (fun q h => ok_m (ok_s (h.up (tc_w hw (by decide)))))) (fun _ => ok_b (s_actOrFail h2 hw) (fun q h => ok_m (ok_s (h.up (tc_w hw (by decide))))))))) (fun _ => ok_s hM)
theorem s_greatest (hM : CI n M) (h0 : 0 ≤ p1.toInt) (h1 : p1.toInt < 12) : Ok (F_X5_greatestInRingOf M p1) (fun q => q.toInt = -1 ∨ (0 ≤ q.toInt ∧ q.toInt < 12)) := by
  unfold F_X5_greatestInRingOf
  refine ok_b (s_awaited hM) (fun q hq => ?_)
  have key : ∀ (f : Nat) (g a v : Int32), 0 ≤ g.toInt → g.toInt < 12 → -1 ≤ a.toInt → a.toInt ≤ 11 → 0 ≤ v.toInt → v.toInt ≤ 12 → 12 - v.toInt < f → Ok (L_X5_greatestInRingOf_14 (fun v2_14 v3_14 v4_14 => (if v3_14 = p1 then some v2_14 else some (-1))) M p1 f g a v) (fun q => q.toInt = -1 ∨ (0 ≤ q.toInt ∧ q.toInt < 12)) := by
    intro f
    induction f with
    | zero => intro g a v _ _ _ _ h0 h1 h2; omega
    | succ f ih =>
      intro g a v g0 g1 a0 a1 h0 h1 h2
      rw [L_X5_greatestInRingOf_14]
      have fin : Ok (if a = p1 then some g else some (-1)) (fun q => q.toInt = -1 ∨ (0 ≤ q.toInt ∧ q.toInt < 12)) := ok_i (fun _ => ok_s (Or.inr ⟨g0, g1⟩)) (fun _ => ok_s (Or.inl ti_m1))
      refine ok_i (fun _ => fin) (fun c => ok_i (fun _ => fin) (fun d => ok_i (fun _ => fin) (fun _ => ok_b (s_awaited hM) (fun q hq => ?_))))
      rw [ti_le, ti_n12] at c
      rw [ti_eq, ti_m1] at d
      have e1 := ti_inc (a := v) (by omega)
      refine ih _ _ _ ?_ ?_ hq.1 hq.2 (by omega) (by omega) (by omega)
      · split <;> omega
      · split <;> omega
  exact key 4000 p1 q 0 h0 h1 hq.1 hq.2 (by rw [ti_n0]; omega) (by rw [ti_n0]; omega) (by rw [ti_n0]; omega)
end CT
