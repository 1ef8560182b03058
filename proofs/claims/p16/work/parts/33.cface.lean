section CF
variable {n : Nat} {M : Mem} {w : Nat} {p1 p2 p3 p4 : Int32}
/-- what work answers, and how many works there are behind it -/
def wk (n : Nat) (p1 p2 : Int32) : Nat × Int := if p1.toInt < 1 ∨ 10 < p1.toInt ∨ p2.toInt < -1 ∨ p1.toInt ≤ p2.toInt then (n, -2) else if n < 12 then (n + 1, n) else (n, -4)
theorem Tc.suc {k j : Nat} {v : Int32} (h : Tc n k j v) (hk : k ≠ 0 ∨ j ≠ 1) : Tc (n + 1) k j v := by
  obtain ⟨-, h⟩ := h
  exact ⟨fun a b => absurd a (by omega), h⟩
theorem CI.suc (h : CI n M) (hn : n < 12) {v : Int32} (hv : v.toInt = n + 1) : CI (n + 1) (up2 M 0 1 v) := by
  refine ⟨by omega, fun a b => ?_⟩
  rw [up2_e]
  by_cases c : a = 0 ∧ b = 1
  · rw [if_pos c, c.1, c.2]
    refine ⟨?_, ?_, ?_, ?_, ?_, ?_, ?_, ?_, ?_, ?_, ?_⟩ <;> intros <;> omega
  · rw [if_neg c]; exact (h.2 a b).suc (by omega)
theorem s_work (hM : CI n M) : Ok (F_X5_work M p1 p2) (fun q => CI (wk n p1 p2).1 q.2 ∧ q.1.toInt = (wk n p1 p2).2) := by
  unfold F_X5_work
  have bad : (p1.toInt < 1 ∨ 10 < p1.toInt ∨ p2.toInt < -1 ∨ p1.toInt ≤ p2.toInt) → Ok (some ((-2 : Int32), M)) (fun q => CI (wk n p1 p2).1 q.2 ∧ q.1.toInt = (wk n p1 p2).2) := by
    intro h
    refine ok_s ?_
    unfold wk
    rw [if_pos h]
    exact ⟨hM, show (-2 : Int32).toInt = -2 by decide⟩
  refine ok_i (fun c => bad ?_) (fun c => ok_i (fun d => bad ?_) (fun d => ok_i (fun e => bad ?_) (fun e => ok_i (fun f => ?_) (fun f => bad ?_))))
  · rw [ti_lt, ti_n1] at c; omega
  · rw [ti_lt, ti_n10] at d; omega
  · rw [ti_lt, ti_m1] at e; omega
  · rw [ti_lt, ti_n1] at c
    rw [ti_lt, ti_n10] at d
    rw [ti_lt, ti_m1] at e
    rw [ti_lt] at f
    have e0 := hM.cnt
    have h12 := hM.1
    have hk : ¬ (p1.toInt < 1 ∨ 10 < p1.toInt ∨ p2.toInt < -1 ∨ p1.toInt ≤ p2.toInt) := by omega
    refine ok_i (fun g => ?_) (fun g => ?_)
    · rw [ti_lt, ti_n12] at g
      have ei : (M 0 1).toNatClampNeg = n := by rw [ti_cl]; omega
      have hw : wok (16 + 7 * (M 0 1).toNatClampNeg) := wok.of (by omega)
      refine ok_g (ti_in (by omega) (by omega)) (ok_m (ok_m (ok_m (ok_s ?_))))
      have hA := (hM.up (tc_w (v := p1) hw (show 3 ≠ 0 by decide))).up (tc_w (v := p2) hw (show 4 ≠ 0 by decide))
      unfold wk
      rw [if_neg hk, if_pos (by omega)]
      refine ⟨hA.suc (by omega) ?_, ?_⟩
      · rw [ti_inc (by rw [hA.cnt]; omega), hA.cnt]
      · obtain ⟨i, h1, h2, h3⟩ := hA.num hw
        show (up2 _ 0 1 _ _ 0).toInt = _
        rw [up2_k (by omega), h3]
        show (i : Int) = (n : Int)
        omega
    · rw [ti_lt, ti_n12] at g
      refine ok_s ?_
      unfold wk
      rw [if_neg hk, if_neg (by omega)]
      exact ⟨hM, show (-4 : Int32).toInt = -4 by decide⟩
  · rw [ti_lt] at f; omega
theorem s_fnd {β : Type} {R : β → Prop} {x : Option β} {f : Nat → Option β} (hM : CI n M) (h0 : Ok x R) (h1 : ∀ w, wok w → Ok (f w) R) : Ok (bi (F_X5_find M p1) fun q_1 => match q_1 with | none => x | some w_3 => f w_3) R := by
  refine ok_b (s_find hM) (fun q hq => ?_)
  rcases hq with rfl | ⟨w, rfl, hw⟩
  · exact h0
  · exact h1 w hw
theorem s_wants (hM : CI n M) : Ok (F_X5_wants M p1 p2 p3 p4) (fun q => CI n q.2) := by
  unfold F_X5_wants
  have ad : ∀ (w : Nat), wok w → ∀ v : Int32, Ok (bi (F_X2_add M (w + 1) p2 v) fun q => some (q.1, q.2)) (fun q => CI n q.2) := fun w hw v => ok_b (s_add (rw_w1 hw) hM) (fun q h => ok_s h)
  exact s_fnd hM (ok_s hM) (fun w hw => ok_b s_isStep (fun q _ => ok_i (fun _ => ok_s hM) (fun _ => ok_i (fun _ => ok_b s_isCopy (fun q _ => ok_i (fun _ => ok_s hM) (fun _ => ok_i (fun _ => ok_i (fun _ => ad w hw _) (fun _ => ad w hw _)) (fun _ => ok_s hM)))) (fun _ => ok_b (s_isOther hM) (fun q _ => ok_i (fun _ => ok_s hM) (fun _ => ok_i (fun _ => ok_i (fun _ => ad w hw _) (fun _ => ad w hw _)) (fun _ => ok_s hM)))))))
theorem s_sends (hM : CI n M) : Ok (F_X5_sends M p1 p2 p3) (fun q => CI n q.2) := by
  unfold F_X5_sends
  exact s_fnd hM (ok_s hM) (fun w hw => ok_b s_isStep (fun q _ => ok_i (fun _ => ok_s hM) (fun _ => ok_b (s_isOther hM) (fun q _ => ok_i (fun _ => ok_s hM) (fun _ => ok_i (fun _ => ok_b (s_add (rw_w4 hw) hM) (fun q h => ok_s h)) (fun _ => ok_s hM))))))
theorem s_loses (hM : CI n M) : Ok (F_X5_loses M p1) (fun q => CI n q.2 ∧ q.1 = if p1 < 0 ∨ 100 < p1 then -2 else 1) := by
  unfold F_X5_loses
  refine ok_i (fun c => ok_s ⟨hM, by rw [if_pos (Or.inl c)]⟩) (fun c => ok_i (fun d => ok_m (ok_s ⟨hM.up (tc_f (by decide)), ?_⟩)) (fun d => ok_s ⟨hM, ?_⟩))
  · rw [if_neg]
    rw [ti_le] at d
    rw [ti_lt] at c ⊢
    rw [ti_lt]
    omega
  · rw [if_pos]
    rw [ti_le] at d
    right
    rw [ti_lt]
    omega
theorem s_turn (hM : CI n M) : Ok (F_X5_turn M p1) (fun q => CI n q.2) := by
  unfold F_X5_turn
  exact s_fnd hM (ok_s hM) (fun w hw => ok_b (s_takeTurn hM hw) (fun q h => ok_s h))
theorem s_run (hM : CI n M) : Ok (F_X5_run M) (fun q => CI n q.2) := by
  unfold F_X5_run
  have inn : ∀ (K : Mem → Int32 → Int32 → Int32 → Option (Int32 × Mem)) (v3 : Int32), (∀ M a b c, CI n M → Ok (K M a b c) (fun q => CI n q.2)) → ∀ (f : Nat) (M : Mem) (a b v : Int32), CI n M → 0 ≤ v.toInt → v.toInt ≤ 12 → 12 - v.toInt < f → Ok (L_X5_run_21 K v3 f M a b v) (fun q => CI n q.2) := by
    intro K v3 hK f
    induction f with
    | zero => intro M a b v _ h0 h1 h2; omega
    | succ f ih =>
      intro M a b v hM h0 h1 h2
      rw [L_X5_run_21]
      refine ok_i (fun c => hK _ _ _ _ hM) (fun c => ?_)
      have h12 := hM.1
      rw [ti_le, hM.cnt] at c
      have e1 := ti_inc (a := v) (by omega)
      refine ok_g (ti_in h0 (by omega)) (ok_b (s_takeTurn hM (wok.of (by rw [ti_cl]; omega))) (fun q hq => ?_))
      have go : ∀ a b : Int32, Ok (L_X5_run_21 K v3 f q.2 a b (v + 1)) (fun q => CI n q.2) := fun a b => ih _ _ _ _ hq (by omega) (by omega) (by omega)
      exact ok_i (fun _ => ok_i (fun _ => ok_i (fun _ => go _ _) (fun _ => go _ _)) (fun _ => ok_b s_isWaiting (fun q14 _ => ok_i (fun _ => ok_i (fun _ => go _ _) (fun _ => go _ _)) (fun _ => ok_i (fun _ => go _ _) (fun _ => go _ _))))) (fun _ => ok_i (fun _ => go _ _) (fun _ => go _ _))
  have out : ∀ (f : Nat) (M : Mem) (a b v : Int32), CI n M → 0 ≤ v.toInt → v.toInt ≤ 1000000 → 1000000 - v.toInt < f → Ok (L_X5_run_6 (fun M_1 v1_6 v2_6 v3_6 => some (v1_6, M_1)) f M a b v) (fun q => CI n q.2) := by
    intro f
    induction f with
    | zero => intro M a b v _ h0 h1 h2; omega
    | succ f ih =>
      intro M a b v hM h0 h1 h2
      rw [L_X5_run_6]
      refine ok_i (fun _ => ok_s hM) (fun _ => ok_i (fun _ => ok_s hM) (fun c => ?_))
      rw [ti_le, ti_mm] at c
      have e1 := ti_inc (a := v) (by omega)
      exact inn _ _ (fun M a b c hM => ih _ _ _ _ hM (by omega) (by omega) (by omega)) 4000 M _ _ 0 hM (by rw [ti_n0]; omega) (by rw [ti_n0]; omega) (by rw [ti_n0]; omega)
  exact out 1000002 M 0 1 0 hM (by rw [ti_n0]; omega) (by rw [ti_n0]; omega) (by rw [ti_n0]; omega)
theorem s_ring (hM : CI n M) : Ok (F_X5_ring M) (fun q => CI n q.2) := by
  unfold F_X5_ring
  have key : ∀ (f : Nat) (v : Int32), 0 ≤ v.toInt → v.toInt ≤ 12 → 12 - v.toInt < f → Ok (L_X5_ring_2 (fun M_1 v1_2 => some ((-1), M_1)) f M v) (fun q => CI n q.2) := by
    intro f
    induction f with
    | zero => intro v h0 h1 h2; omega
    | succ f ih =>
      intro v h0 h1 h2
      rw [L_X5_ring_2]
      refine ok_i (fun c => ok_s hM) (fun c => ?_)
      have h12 := hM.1
      rw [ti_le, hM.cnt] at c
      have e1 := ti_inc (a := v) (by omega)
      refine ok_b (s_greatest hM h0 (by omega)) (fun q hq => ok_i (fun _ => ih _ (by omega) (by omega) (by omega)) (fun d => ?_))
      rw [ti_eq, ti_m1] at d
      have h := hq.resolve_left d
      exact ok_g (ti_in h.1 (by omega)) (ok_b (s_undo hM (wok.of (by rw [ti_cl]; omega))) (fun q h => ok_s h))
  exact key 4000 0 (by rw [ti_n0]; omega) (by rw [ti_n0]; omega) (by rw [ti_n0]; omega)
theorem s_interrupt (hM : CI n M) : Ok (F_X5_interrupt M p1) (fun q => CI n q.2) := by
  unfold F_X5_interrupt
  exact s_fnd hM (ok_s hM) (fun w hw => ok_i (fun _ => ok_b s_isWaiting (fun q _ => ok_i (fun _ => ok_s hM) (fun _ => ok_b (s_undo hM hw) (fun q h => ok_s h)))) (fun _ => ok_s hM))
theorem s_again (hM : CI n M) : Ok (F_X5_again M p1) (fun q => CI n q.2) := by
  unfold F_X5_again
  exact s_fnd hM (ok_s hM) (fun w hw => ok_i (fun _ => ok_b (s_beginAgain hM hw) (fun q h => ok_s h)) (fun _ => ok_i (fun _ => ok_b (s_beginAgain hM hw) (fun q h => ok_s h)) (fun _ => ok_i (fun _ => ok_b (s_beginAgain hM hw) (fun q h => ok_s h)) (fun _ => ok_s hM))))
theorem s_close (hM : CI n M) : Ok (F_X5_close M) (fun q => CI n q.2) := by
  unfold F_X5_close
  have key : ∀ (f : Nat) (M : Mem) (a v : Int32), CI n M → -1 ≤ v.toInt → v.toInt < 12 → v.toInt + 1 < f → Ok (L_X5_close_9 (fun M_1 v1_9 v2_9 => some (v1_9, M_1)) f M a v) (fun q => CI n q.2) := by
    intro f
    induction f with
    | zero => intro M a v _ h0 h1 h2; omega
    | succ f ih =>
      intro M a v hM h0 h1 h2
      rw [L_X5_close_9]
      refine ok_i (fun c => ok_s hM) (fun c => ?_)
      rw [ti_lt, ti_n0] at c
      have e1 := ti_dm (a := v) (by omega)
      have g : inb v 12 = true := ti_in (by omega) (by omega)
      exact ok_g g (ok_i (fun _ => ok_g g (ok_b (s_undo hM (wok.of (by rw [ti_cl]; omega))) (fun q hq => ih _ _ _ hq (by omega) (by omega) (by omega)))) (fun _ => ih _ _ _ hM (by omega) (by omega) (by omega)))
  have e0 := hM.cnt
  have h12 := hM.1
  have e1 := ti_dec (a := M 0 1) (by omega)
  exact key 4000 M 0 _ hM (by omega) (by omega) (by omega)
theorem s_state (hM : CI n M) : Ok (F_X5_state M p1 p2) (fun _ => True) := by
  unfold F_X5_state
  exact s_fnd hM (ok_s trivial) (fun w hw => ok_i (fun _ => ok_s trivial) (fun _ => ok_i (fun _ => ok_s trivial) (fun _ => ok_i (fun _ => ok_s trivial) (fun _ => ok_i (fun _ => ok_b s_countOf (fun q h => ok_s trivial)) (fun _ => ok_i (fun _ => ok_s trivial) (fun _ => ok_s trivial))))))
theorem s_has : Ok (F_X5_has M p1) (fun _ => True) := by
  unfold F_X5_has
  refine ok_b s_isCopy (fun q hq => ok_i (fun _ => ok_s trivial) (fun c => ?_))
  rw [ti_eq, ti_n0] at c
  have h := hq.resolve_left c
  exact ok_g (ti_in h.1 (by rw [show ln 5 = 10 from rfl]; omega)) (ok_s trivial)
theorem s_line (hM : CI n M) : Ok (F_X5_line M p1 p2) (fun _ => True) := by
  unfold F_X5_line
  exact ok_b (s_item rw_6 hM) (fun q h => ok_s trivial)
theorem s_log (hM : CI n M) : Ok (F_X5_log M p1) (fun _ => True) := by
  unfold F_X5_log
  exact ok_b (s_item rw_13 hM) (fun q h => ok_s trivial)
theorem s_mail (hM : CI n M) : Ok (F_X5_mail M p1 p2) (fun _ => True) := by
  unfold F_X5_mail
  exact s_fnd hM (ok_s trivial) (fun w hw => ok_b (s_isOther hM) (fun q _ => ok_i (fun _ => ok_s trivial) (fun _ => ok_b (P := fun _ => True) (ok_s trivial) (fun q _ => ok_b s_countThere (fun q h => ok_s trivial)))))
end CF
