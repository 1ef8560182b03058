theorem iv_work : ∀ (i : Nat) (M N : Mem), i + 5 ≤ 2560 → Ivr i M N → ∀ v1 v2 : Int32, ∃ q q', F_X5_work M v1 v2 = some q ∧ F_X6_work N v1 v2 = some q' ∧ Ivr (i + 5) q.2 q'.2 := by
  intro i M N hi ⟨n, hR⟩ v1 v2
  obtain ⟨q, q', e, e', k, h⟩ := Rs_work (p1 := v1) (p2 := v2) hR
  exact ⟨q, q', e, e', ⟨_, h.mono (by omega) (by omega)⟩⟩
theorem iv_wants : ∀ (i : Nat) (M N : Mem), i + 5 ≤ 2560 → Ivr i M N → ∀ v1 v2 v3 v4 : Int32, ∃ q q', F_X5_wants M v1 v2 v3 v4 = some q ∧ F_X6_wants N v1 v2 v3 v4 = some q' ∧ Ivr (i + 5) q.2 q'.2 := by
  intro i M N hi ⟨n, hR⟩ v1 v2 v3 v4
  obtain ⟨q, q', e, e', k, h⟩ := Rs_wants (p1 := v1) (p2 := v2) (p3 := v3) (p4 := v4) hR
  exact ⟨q, q', e, e', ⟨_, h.mono (by omega) (by omega)⟩⟩
theorem iv_sends : ∀ (i : Nat) (M N : Mem), i + 5 ≤ 2560 → Ivr i M N → ∀ v1 v2 v3 : Int32, ∃ q q', F_X5_sends M v1 v2 v3 = some q ∧ F_X6_sends N v1 v2 v3 = some q' ∧ Ivr (i + 5) q.2 q'.2 := by
  intro i M N hi ⟨n, hR⟩ v1 v2 v3
  obtain ⟨q, q', e, e', k, h⟩ := Rs_sends (p1 := v1) (p2 := v2) (p3 := v3) hR
  exact ⟨q, q', e, e', ⟨_, h.mono (by omega) (by omega)⟩⟩
theorem iv_loses : ∀ (i : Nat) (M N : Mem), i + 5 ≤ 2560 → Ivr i M N → ∀ v1 : Int32, ∃ q q', F_X5_loses M v1 = some q ∧ F_X6_loses N v1 = some q' ∧ Ivr (i + 5) q.2 q'.2 := by
  intro i M N hi ⟨n, hR⟩ v1
  obtain ⟨q, q', e, e', k, h⟩ := Rs_loses (p1 := v1) hR
  exact ⟨q, q', e, e', ⟨_, h.mono (by omega) (by omega)⟩⟩
theorem iv_turn : ∀ (i : Nat) (M N : Mem), i + 5 ≤ 2560 → Ivr i M N → ∀ v1 : Int32, ∃ q q', F_X5_turn M v1 = some q ∧ F_X6_turn N v1 = some q' ∧ Ivr (i + 5) q.2 q'.2 := by
  intro i M N hi ⟨n, hR⟩ v1
  obtain ⟨q, q', e, e', k, h⟩ := Rs_turn (C := 130000 * (i : Int) + 1) (p1 := v1) (by omega) (by omega) (hR.mono (Int.le_refl _) (by omega))
  exact ⟨q, q', e, e', ⟨_, h.mono (by omega) (by omega)⟩⟩
theorem iv_run : ∀ (i : Nat) (M N : Mem), i + 5 ≤ 2560 → Ivr i M N → ∃ q q', F_X5_run M  = some q ∧ F_X6_run N  = some q' ∧ Ivr (i + 5) q.2 q'.2 := by
  intro i M N hi ⟨n, hR⟩ 
  obtain ⟨q, q', e, e', k, h⟩ := Rs_run (C := 130000 * (i : Int) + 628824) (by omega) (by omega) (hR.mono (Int.le_refl _) (by omega))
  exact ⟨q, q', e, e', ⟨_, h.mono (by omega) (by omega)⟩⟩
theorem iv_ring : ∀ (i : Nat) (M N : Mem), i + 5 ≤ 2560 → Ivr i M N → ∃ q q', F_X5_ring M  = some q ∧ F_X6_ring N  = some q' ∧ Ivr (i + 5) q.2 q'.2 := by
  intro i M N hi ⟨n, hR⟩ 
  obtain ⟨q, q', e, e', k, h⟩ := Rs_ring  hR
  exact ⟨q, q', e, e', ⟨_, h.mono (by omega) (by omega)⟩⟩
theorem iv_interrupt : ∀ (i : Nat) (M N : Mem), i + 5 ≤ 2560 → Ivr i M N → ∀ v1 : Int32, ∃ q q', F_X5_interrupt M v1 = some q ∧ F_X6_interrupt N v1 = some q' ∧ Ivr (i + 5) q.2 q'.2 := by
  intro i M N hi ⟨n, hR⟩ v1
  obtain ⟨q, q', e, e', k, h⟩ := Rs_interrupt (p1 := v1) hR
  exact ⟨q, q', e, e', ⟨_, h.mono (by omega) (by omega)⟩⟩
theorem iv_again : ∀ (i : Nat) (M N : Mem), i + 5 ≤ 2560 → Ivr i M N → ∀ v1 : Int32, ∃ q q', F_X5_again M v1 = some q ∧ F_X6_again N v1 = some q' ∧ Ivr (i + 5) q.2 q'.2 := by
  intro i M N hi ⟨n, hR⟩ v1
  obtain ⟨q, q', e, e', k, h⟩ := Rs_again (p1 := v1) hR
  exact ⟨q, q', e, e', ⟨_, h.mono (by omega) (by omega)⟩⟩
theorem iv_close : ∀ (i : Nat) (M N : Mem), i + 5 ≤ 2560 → Ivr i M N → ∃ q q', F_X5_close M  = some q ∧ F_X6_close N  = some q' ∧ Ivr (i + 5) q.2 q'.2 := by
  intro i M N hi ⟨n, hR⟩ 
  obtain ⟨q, q', e, e', k, h⟩ := Rs_close  hR
  exact ⟨q, q', e, e', ⟨_, h.mono (by omega) (by omega)⟩⟩
theorem iv_state : ∀ (i : Nat) (M N : Mem), i + 5 ≤ 2560 → Ivr i M N → ∀ v1 v2 : Int32, ∃ q q', F_X5_state M v1 v2 = some q ∧ F_X6_state N v1 v2 = some q' ∧ Ivr (i + 5) M q'.2 := by
  intro i M N hi ⟨n, hR⟩ v1 v2
  obtain ⟨q, q', e, e', k, h⟩ := Rs_state (p1 := v1) (p2 := v2) hR
  exact ⟨q, q', e, e', ⟨_, h.mono (by omega) (by omega)⟩⟩
theorem iv_has : ∀ (i : Nat) (M N : Mem), i + 5 ≤ 2560 → Ivr i M N → ∀ v1 : Int32, ∃ q q', F_X5_has M v1 = some q ∧ F_X6_has N v1 = some q' ∧ Ivr (i + 5) M q'.2 := by
  intro i M N hi ⟨n, hR⟩ v1
  obtain ⟨q, q', e, e', k, h⟩ := Rs_has (p1 := v1) hR
  exact ⟨q, q', e, e', ⟨_, h.mono (by omega) (by omega)⟩⟩
theorem iv_line : ∀ (i : Nat) (M N : Mem), i + 5 ≤ 2560 → Ivr i M N → ∀ v1 v2 : Int32, ∃ q q', F_X5_line M v1 v2 = some q ∧ F_X6_line N v1 v2 = some q' ∧ Ivr (i + 5) M q'.2 := by
  intro i M N hi ⟨n, hR⟩ v1 v2
  obtain ⟨q, q', e, e', k, h⟩ := Rs_line (p1 := v1) (p2 := v2) hR
  exact ⟨q, q', e, e', ⟨_, h.mono (by omega) (by omega)⟩⟩
theorem iv_value : ∀ (i : Nat) (M N : Mem), i + 5 ≤ 2560 → Ivr i M N → ∀ v1 : Int32, ∃ q', F_X6_value N v1 = some q' ∧ Ivr (i + 5) M q'.2 := by
  intro i M N hi ⟨n, hR⟩ v1
  obtain ⟨q', e', h, k⟩ := Rs_value (p1 := v1) hR
  exact ⟨q', e', ⟨n, h.mono (by omega) (by omega)⟩⟩
theorem iv_log : ∀ (i : Nat) (M N : Mem), i + 5 ≤ 2560 → Ivr i M N → ∀ v1 : Int32, ∃ q q', F_X5_log M v1 = some q ∧ F_X6_log N v1 = some q' ∧ Ivr (i + 5) M q'.2 ∧ q = q'.1 := by
  intro i M N hi ⟨n, hR⟩ v1
  obtain ⟨q, q', e, e', k, h⟩ := Rs_log (p1 := v1) hR
  exact ⟨q, q', e, e', ⟨_, h.mono (by omega) (by omega)⟩, k⟩
theorem iv_mail : ∀ (i : Nat) (M N : Mem), i + 5 ≤ 2560 → Ivr i M N → ∀ v1 v2 : Int32, ∃ q q', F_X5_mail M v1 v2 = some q ∧ F_X6_mail N v1 v2 = some q' ∧ Ivr (i + 5) M q'.2 := by
  intro i M N hi ⟨n, hR⟩ v1 v2
  obtain ⟨q, e, -⟩ := s_mail (p1 := v1) (p2 := v2) hR.2.1
  obtain ⟨q', e', h⟩ := Rs_mail (p1 := v1) (p2 := v2) hR
  exact ⟨q, q', e, e', n, h.mono (by omega) (by omega)⟩
