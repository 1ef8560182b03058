theorem iv_work : ∀ (i : Nat) (M N : Mem), i + 5 ≤ 2560 → Iv0 i M N → ∀ v1 v2 : Int32, ∃ q q', F_X5_work M v1 v2 = some q ∧ F_X6_work N v1 v2 = some q' ∧ Iv0 (i + 5) q.2 q'.2 := by
  intro i M N hi ⟨n, hM, hN⟩ v1 v2
  obtain ⟨q, hq, h⟩ := s_work (p1 := v1) (p2 := v2) hM
  obtain ⟨q', hq', h'⟩ := m_work (p1 := v1) (p2 := v2) hN
  exact ⟨q, q', hq, hq', ⟨_, h.1, h'.1.mono (by omega)⟩⟩
theorem iv_wants : ∀ (i : Nat) (M N : Mem), i + 5 ≤ 2560 → Iv0 i M N → ∀ v1 v2 v3 v4 : Int32, ∃ q q', F_X5_wants M v1 v2 v3 v4 = some q ∧ F_X6_wants N v1 v2 v3 v4 = some q' ∧ Iv0 (i + 5) q.2 q'.2 := by
  intro i M N hi ⟨n, hM, hN⟩ v1 v2 v3 v4
  obtain ⟨q, hq, h⟩ := s_wants (p1 := v1) (p2 := v2) (p3 := v3) (p4 := v4) hM
  obtain ⟨q', hq', h'⟩ := m_wants (p1 := v1) (p2 := v2) (p3 := v3) (p4 := v4) hN
  exact ⟨q, q', hq, hq', n, h, h'.mono (by omega)⟩
theorem iv_sends : ∀ (i : Nat) (M N : Mem), i + 5 ≤ 2560 → Iv0 i M N → ∀ v1 v2 v3 : Int32, ∃ q q', F_X5_sends M v1 v2 v3 = some q ∧ F_X6_sends N v1 v2 v3 = some q' ∧ Iv0 (i + 5) q.2 q'.2 := by
  intro i M N hi ⟨n, hM, hN⟩ v1 v2 v3
  obtain ⟨q, hq, h⟩ := s_sends (p1 := v1) (p2 := v2) (p3 := v3) hM
  obtain ⟨q', hq', h'⟩ := m_sends (p1 := v1) (p2 := v2) (p3 := v3) hN
  exact ⟨q, q', hq, hq', n, h, h'.mono (by omega)⟩
theorem iv_loses : ∀ (i : Nat) (M N : Mem), i + 5 ≤ 2560 → Iv0 i M N → ∀ v1 : Int32, ∃ q q', F_X5_loses M v1 = some q ∧ F_X6_loses N v1 = some q' ∧ Iv0 (i + 5) q.2 q'.2 ∧ q.1 = q'.1 := by
  intro i M N hi ⟨n, hM, hN⟩ v1
  obtain ⟨q, hq, h⟩ := s_loses (p1 := v1) hM
  obtain ⟨q', hq', h'⟩ := m_loses (p1 := v1) hN
  exact ⟨q, q', hq, hq', ⟨n, h.1, h'.1.mono (by omega)⟩, h.2.trans h'.2.symm⟩
theorem iv_turn : ∀ (i : Nat) (M N : Mem), i + 5 ≤ 2560 → Iv0 i M N → ∀ v1 : Int32, ∃ q q', F_X5_turn M v1 = some q ∧ F_X6_turn N v1 = some q' ∧ Iv0 (i + 5) q.2 q'.2 := by
  intro i M N hi ⟨n, hM, hN⟩ v1
  obtain ⟨q, hq, h⟩ := s_turn (p1 := v1) hM
  obtain ⟨q', hq', h'⟩ := m_turn (p1 := v1) hN (by omega)
  exact ⟨q, q', hq, hq', n, h, h'.mono (by omega)⟩
theorem iv_run : ∀ (i : Nat) (M N : Mem), i + 5 ≤ 2560 → Iv0 i M N → ∃ q q', F_X5_run M  = some q ∧ F_X6_run N  = some q' ∧ Iv0 (i + 5) q.2 q'.2 := by
  intro i M N hi ⟨n, hM, hN⟩ 
  obtain ⟨q, hq, h⟩ := s_run  hM
  obtain ⟨q', hq', h'⟩ := m_run  hN (by omega)
  exact ⟨q, q', hq, hq', n, h, h'.mono (by omega)⟩
theorem iv_ring : ∀ (i : Nat) (M N : Mem), i + 5 ≤ 2560 → Iv0 i M N → ∃ q q', F_X5_ring M  = some q ∧ F_X6_ring N  = some q' ∧ Iv0 (i + 5) q.2 q'.2 := by
  intro i M N hi ⟨n, hM, hN⟩ 
  obtain ⟨q, hq, h⟩ := s_ring  hM
  obtain ⟨q', hq', h'⟩ := m_ring  hN
  exact ⟨q, q', hq, hq', n, h, h'.mono (by omega)⟩
theorem iv_interrupt : ∀ (i : Nat) (M N : Mem), i + 5 ≤ 2560 → Iv0 i M N → ∀ v1 : Int32, ∃ q q', F_X5_interrupt M v1 = some q ∧ F_X6_interrupt N v1 = some q' ∧ Iv0 (i + 5) q.2 q'.2 := by
  intro i M N hi ⟨n, hM, hN⟩ v1
  obtain ⟨q, hq, h⟩ := s_interrupt (p1 := v1) hM
  obtain ⟨q', hq', h'⟩ := m_interrupt (p1 := v1) hN
  exact ⟨q, q', hq, hq', n, h, h'.mono (by omega)⟩
theorem iv_again : ∀ (i : Nat) (M N : Mem), i + 5 ≤ 2560 → Iv0 i M N → ∀ v1 : Int32, ∃ q q', F_X5_again M v1 = some q ∧ F_X6_again N v1 = some q' ∧ Iv0 (i + 5) q.2 q'.2 := by
  intro i M N hi ⟨n, hM, hN⟩ v1
  obtain ⟨q, hq, h⟩ := s_again (p1 := v1) hM
  obtain ⟨q', hq', h'⟩ := m_again (p1 := v1) hN
  exact ⟨q, q', hq, hq', n, h, h'.mono (by omega)⟩
theorem iv_close : ∀ (i : Nat) (M N : Mem), i + 5 ≤ 2560 → Iv0 i M N → ∃ q q', F_X5_close M  = some q ∧ F_X6_close N  = some q' ∧ Iv0 (i + 5) q.2 q'.2 := by
  intro i M N hi ⟨n, hM, hN⟩ 
  obtain ⟨q, hq, h⟩ := s_close  hM
  obtain ⟨q', hq', h'⟩ := m_close  hN
  exact ⟨q, q', hq, hq', n, h, h'.mono (by omega)⟩
theorem iv_state : ∀ (i : Nat) (M N : Mem), i + 5 ≤ 2560 → Iv0 i M N → ∀ v1 v2 : Int32, ∃ q q', F_X5_state M v1 v2 = some q ∧ F_X6_state N v1 v2 = some q' ∧ Iv0 (i + 5) M q'.2 := by
  intro i M N hi ⟨n, hM, hN⟩ v1 v2
  obtain ⟨q, hq, h⟩ := s_state (p1 := v1) (p2 := v2) hM
  obtain ⟨q', hq', h'⟩ := m_state (p1 := v1) (p2 := v2) hN
  exact ⟨q, q', hq, hq', n, hM, h'.mono (by omega)⟩
theorem iv_has : ∀ (i : Nat) (M N : Mem), i + 5 ≤ 2560 → Iv0 i M N → ∀ v1 : Int32, ∃ q q', F_X5_has M v1 = some q ∧ F_X6_has N v1 = some q' ∧ Iv0 (i + 5) M q'.2 := by
  intro i M N hi ⟨n, hM, hN⟩ v1
  obtain ⟨q, hq, h⟩ := s_has (M := M) (p1 := v1)
  obtain ⟨q', hq', h'⟩ := m_has (p1 := v1) hN
  exact ⟨q, q', hq, hq', n, hM, h'.mono (by omega)⟩
theorem iv_line : ∀ (i : Nat) (M N : Mem), i + 5 ≤ 2560 → Iv0 i M N → ∀ v1 v2 : Int32, ∃ q q', F_X5_line M v1 v2 = some q ∧ F_X6_line N v1 v2 = some q' ∧ Iv0 (i + 5) M q'.2 := by
  intro i M N hi ⟨n, hM, hN⟩ v1 v2
  obtain ⟨q, hq, h⟩ := s_line (p1 := v1) (p2 := v2) hM
  obtain ⟨q', hq', h'⟩ := m_line (p1 := v1) (p2 := v2) hN
  exact ⟨q, q', hq, hq', n, hM, h'.mono (by omega)⟩
theorem iv_value : ∀ (i : Nat) (M N : Mem), i + 5 ≤ 2560 → Iv0 i M N → ∀ v1 : Int32, ∃ q', F_X6_value N v1 = some q' ∧ Iv0 (i + 5) M q'.2 := by
  intro i M N hi ⟨n, hM, hN⟩ v1
  obtain ⟨q', hq', h'⟩ := m_value (p1 := v1) hN
  exact ⟨q', hq', n, hM, h'.mono (by omega)⟩
theorem iv_log : ∀ (i : Nat) (M N : Mem), i + 5 ≤ 2560 → Iv0 i M N → ∀ v1 : Int32, ∃ q q', F_X5_log M v1 = some q ∧ F_X6_log N v1 = some q' ∧ Iv0 (i + 5) M q'.2 := by
  intro i M N hi ⟨n, hM, hN⟩ v1
  obtain ⟨q, hq, h⟩ := s_log (p1 := v1) hM
  obtain ⟨q', hq', h'⟩ := m_log (p1 := v1) hN
  exact ⟨q, q', hq, hq', n, hM, h'.mono (by omega)⟩
theorem iv_mail : ∀ (i : Nat) (M N : Mem), i + 5 ≤ 2560 → Iv0 i M N → ∀ v1 v2 : Int32, ∃ q q', F_X5_mail M v1 v2 = some q ∧ F_X6_mail N v1 v2 = some q' ∧ Iv0 (i + 5) M q'.2 := by
  intro i M N hi ⟨n, hM, hN⟩ v1 v2
  obtain ⟨q, hq, h⟩ := s_mail (p1 := v1) (p2 := v2) hM
  obtain ⟨q', hq', h'⟩ := m_mail (p1 := v1) (p2 := v2) hN
  exact ⟨q, q', hq, hq', n, hM, h'.mono (by omega)⟩
