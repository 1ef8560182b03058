section ZX
variable {n : Nat} {M M' N N' : Mem} {w c k : Nat} {u v p1 p2 p3 p4 x : Int32} {B C : Int}
theorem e_isWork (hM : CI n M) : F_X5_isWork M p1 = some (if 0 ≤ p1.toInt ∧ p1.toInt < n then 1 else 0) := by
  unfold F_X5_isWork
  by_cases a : p1.toInt < 0
  · rw [if_pos (by rw [ti_lt, ti_n0]; exact a), if_neg (by omega)]
  · rw [if_neg (by rw [ti_lt, ti_n0]; exact a)]
    by_cases b : (n : Int) ≤ p1.toInt
    · rw [if_pos (by rw [ti_le, hM.cnt]; exact b), if_neg (by omega)]
    · rw [if_neg (by rw [ti_le, hM.cnt]; exact b), if_pos (by omega)]
theorem e_find (hM : CI n M) : F_X5_find M p1 = some (if 0 ≤ p1.toInt ∧ p1.toInt < n then some (16 + 7 * p1.toNatClampNeg) else none) := by
  have h12 := hM.1
  unfold F_X5_find
  rw [e_isWork hM, bi_s]
  by_cases a : 0 ≤ p1.toInt ∧ p1.toInt < n
  · rw [if_pos a, if_neg (by decide), ti_in a.1 (by omega), gd_t, if_pos a]
  · rw [if_neg a, if_pos rfl, if_neg a]
theorem e6_isWork (hN : MT n N) : F_X6_isWork N p1 = some (if 0 ≤ p1.toInt ∧ p1.toInt < n then 1 else 0) := by
  obtain ⟨q, e, h⟩ := m_isWork (p1 := p1) hN
  rw [e]
  rcases h with ⟨rfl, h⟩ | ⟨rfl, h⟩
  · rw [if_pos h]
  · rw [if_neg (by omega)]
theorem e6_in {p0 : Int32} : F_X6_in N p0 p1 p2 = some (if p1.toInt ≤ p0.toInt ∧ p0.toInt ≤ p2.toInt then 1 else 0) := by
  obtain ⟨q, e, h⟩ := m_in (N := N) (p0 := p0) (p1 := p1) (p2 := p2)
  rw [e]
  rcases h with ⟨rfl, h⟩ | ⟨rfl, h⟩
  · rw [if_pos h]
  · rw [if_neg (by omega)]
theorem wx (h : 0 ≤ p1.toInt ∧ p1.toInt < n) : ∃ w : Nat, w < n ∧ p1 = nI w ∧ p1.toNatClampNeg = w ∧ p1.toInt = w := by
  obtain ⟨w, hw⟩ : ∃ w : Nat, p1.toInt = w := ⟨p1.toInt.toNat, by omega⟩
  exact ⟨w, by omega, of_nI hw, cl_of hw, hw⟩
theorem Rs_turn (hB : B ≤ 1000000) (hC : C ≤ 2147483646) (hR : Rs n B (C - 1) M N) : Ok2 (F_X5_turn M p1) (F_X6_turn N p1) (fun q q' => q.1 = q'.1 ∧ Rs n B C q.2 q'.2) := by
  unfold F_X5_turn F_X6_turn
  rw [bm_d]
  have h0 := Rs_0 (x := 0) hR
  generalize up2 N 0 0 0 = N0 at h0 ⊢
  obtain ⟨rI, rM, rR, rG, rk0, rk1⟩ := id h0
  rw [e_find rM, bi_s]
  by_cases a : 0 ≤ p1.toInt ∧ p1.toInt < n
  · rw [if_pos a]
    obtain ⟨w, hw, e1, e2, e3⟩ := wx a
    rw [e2, e1]
    obtain ⟨q, eq, N2, eq2, hdo, t1, t2, t3, t4⟩ := turn_eq (w := w) rI hB rR rG rM hw rk0 (by omega)
    obtain ⟨mI, -⟩ := m_doI rI hB hdo
    show Ok2 (bi (F_X5_takeTurn M (16 + 7 * w)) _) _ _
    rw [eq, bi_s, eq2, bi_s]
    refine ok2_s ⟨rfl, mI, t1, t2, t3, ?_⟩
    show 0 ≤ (N2 0 13).toInt ∧ (N2 0 13).toInt ≤ C
    rcases t4 with z | z
    · rw [z]; omega
    · rw [z, ti_inc (by omega)]; omega
  · rw [if_neg a]
    obtain ⟨q', eq', hq'⟩ := m_does (p1 := p1) rI hB
    rw [eq', bi_s]
    rcases hq' with ⟨rfl, -⟩ | ⟨z, -⟩
    · exact ok2_s ⟨rfl, h0.mono (Int.le_refl _) (by omega)⟩
    · exact absurd z a
theorem Rs_interrupt (hR : Rs n B C M N) : Ok2 (F_X5_interrupt M p1) (F_X6_interrupt N p1) (fun q q' => q.1 = q'.1 ∧ Rs n B C q.2 q'.2) := by
  unfold F_X5_interrupt F_X6_interrupt
  rw [bm_d]
  have h0 := Rs_0 (x := 0) hR
  generalize up2 N 0 0 0 = N0 at h0 ⊢
  obtain ⟨rI, rM, rR, rG, rk0, rk1⟩ := id h0
  have h12 := rI.1.1
  rw [e_find rM, bi_s, e6_isWork rI.1, bi_s]
  by_cases a : 0 ≤ p1.toInt ∧ p1.toInt < n
  · rw [if_pos a, if_pos a, if_neg (by decide)]
    obtain ⟨w, hw, e1, e2, e3⟩ := wx a
    have g : inb p1 12 = true := ti_in a.1 (by omega)
    rw [show lm 3 = 12 from rfl, show lm 6 = 12 from rfl, g, gd_t, gd_t, gd_t, e2]
    show Ok2 (if M (16 + 7 * w) 5 = 0 then _ else _) _ _
    have a5 : M (16 + 7 * w) 5 = N0 3 w := (rR.1 w (by omega)).2.1
    have a11 : M (16 + 7 * w) 11 = N0 6 w := (rR.1 w (by omega)).2.2.2.2.2.2.2
    rw [a5, a11]
    by_cases b : N0 3 w = 0
    · rw [if_pos b, if_pos b, e_isWaiting, bi_s]
      have un : Ok2 (bi (F_X5_undo M (16 + 7 * w) 4) fun q_8 => some ((1 : Int32), q_8)) (bi (F_X6_undo N0 p1 4) fun q_9 => some ((1 : Int32), q_9)) (fun q q' => q.1 = q'.1 ∧ Rs n B C q.2 q'.2) := by
        rw [e1]
        exact ok2_l (undo_eq (to := 4) h0 hw (by decide)) (fun a b hab => ok2_s ⟨rfl, hab⟩)
      by_cases c3 : N0 6 w = 3
      · rw [if_pos (Or.inl c3), if_neg (by decide), if_pos c3]
        exact un
      · by_cases c4 : N0 6 w = 4
        · rw [if_pos (Or.inr c4), if_neg (by decide), if_neg c3, if_pos c4]
          exact un
        · rw [if_neg (show ¬ (N0 6 w = 3 ∨ N0 6 w = 4) from fun z => z.elim c3 c4), if_pos rfl, if_neg c3, if_neg c4]
          exact ok2_s ⟨rfl, h0⟩
    · rw [if_neg b, if_neg b]
      exact ok2_s ⟨rfl, h0⟩
  · rw [if_neg a, if_neg a, if_pos rfl]
    exact ok2_s ⟨rfl, h0⟩
theorem up2_cm {A : Mem} {k k' j j' : Nat} {a b : Int32} (h : k ≠ k') : up2 (up2 A k j a) k' j' b = up2 (up2 A k' j' b) k j a := by
  funext y z
  rw [up2_e, up2_e, up2_e, up2_e]
  by_cases q1 : y = k ∧ z = j
  · by_cases q2 : y = k' ∧ z = j'
    · exact absurd (q1.1.symm.trans q2.1) h
    · rw [if_neg q2, if_pos q1, if_pos q1]
  · rw [if_neg q1, if_neg q1]
theorem Rs_again (hR : Rs n B C M N) : Ok2 (F_X5_again M p1) (F_X6_again N p1) (fun q q' => q.1 = q'.1 ∧ Rs n B C q.2 q'.2) := by
  obtain ⟨qz, ez, mz⟩ := m_again (p1 := p1) hR.1
  obtain ⟨qy, ey, my⟩ := s_again (p1 := p1) hR.2.1
  have key : Ok2 (F_X5_again M p1) (F_X6_again N p1) (fun q q' => q.1 = q'.1 ∧ Rr n q.2 q'.2 ∧ RG q'.2 ∧ q'.2 0 13 = N 0 13) := by
    have h0 := Rs_0 (x := 0) hR
    have h13 : up2 N 0 0 0 0 13 = N 0 13 := up2_j (by decide)
    clear ez ey
    unfold F_X5_again F_X6_again
    rw [bm_d]
    generalize up2 N 0 0 0 = N0 at h0 h13 ⊢
    obtain ⟨rI, rM, rR, rG, rk0, rk1⟩ := id h0
    have h12 := rI.1.1
    rw [e_find rM, bi_s, e6_isWork rI.1, bi_s]
    by_cases a : 0 ≤ p1.toInt ∧ p1.toInt < n
    · rw [if_pos a, if_pos a, if_neg (by decide)]
      obtain ⟨w, hw, e1, e2, e3⟩ := wx a
      have g : inb p1 12 = true := ti_in a.1 (by omega)
      rw [show lm 3 = 12 from rfl, show lm 4 = 12 from rfl, show lm 5 = 12 from rfl, show lm 6 = 12 from rfl, show lm 2 = 12 from rfl, show lm 9 = 12 from rfl, g, gd_t, e2, e6_in, bi_s]
      show Ok2 (if M (16 + 7 * w) 5 = 2 then _ else _) _ _
      have a5 : M (16 + 7 * w) 5 = N0 3 w := (rR.1 w (by omega)).2.1
      have a9 : M (16 + 7 * w) 9 = N0 9 w := (rR.1 w (by omega)).2.2.2.2.2.1
      rw [a5, ti_n2, ti_n4]
      have be : (N0 3 w).toInt ≠ 0 → Ok2 (bi (F_X4_beginAgain M (16 + 7 * w)) fun q_5 => some ((q_5 (16 + 7 * w) 9), q_5)) (gd true <| bm (up2 N0 3 w 0) fun M_10 => gd true <| bm (up2 M_10 4 w 0) fun M_12 => gd true <| bm (up2 M_12 5 w 0) fun M_14 => gd true <| bm (up2 M_14 6 w 0) fun M_16 => gd true <| bm (up2 M_16 2 w (-1)) fun M_18 => gd true <| gd true <| bm (up2 M_18 9 w ((M_18 9 w) + 1)) fun M_21 => gd true <| some ((M_21 9 w), M_21)) (fun q q' => q.1 = q'.1 ∧ Rr n q.2 q'.2 ∧ RG q'.2 ∧ q'.2 0 13 = N 0 13) := by
        intro hs
        have z10 : (N0 10 w).toInt = 0 := by
          by_cases q : (N0 10 w).toInt = 0
          · exact q
          · exact absurd (rR.2.2.2.2.2 w (by omega) q).2.1 hs
        unfold F_X4_beginAgain
        simp only [gd_t, bm_d, bi_s]
        rw [up2_s, up2_s]
        have c9 : up2 (up2 (up2 (up2 (up2 M (16 + 7 * w) 5 0) (16 + 7 * w) 6 0) (16 + 7 * w) 7 0) (16 + 7 * w) 4 (-1)) (16 + 7 * w) 11 0 (16 + 7 * w) 9 = N0 9 w := by
          rw [up2_j (by decide), up2_j (by decide), up2_j (by decide), up2_j (by decide), up2_j (by decide), a9]
        have d9 : up2 (up2 (up2 (up2 (up2 N0 3 w 0) 4 w 0) 5 w 0) 6 w 0) 2 w (-1) 9 w = N0 9 w := by
          rw [up2_k (by decide), up2_k (by decide), up2_k (by decide), up2_k (by decide), up2_k (by decide)]
        rw [c9, d9, up2_cm (k := 6) (k' := 2) (by decide)]
        have s1 := Rr_fld (w := w) (v := 0) rR (Or.inl ⟨rfl, rfl⟩) (RF_w rR.2.2.2.2.2 (Or.inl rfl) z10)
        have s2 := Rr_fld (w := w) (v := 0) s1 (Or.inr (Or.inl ⟨rfl, rfl⟩)) (RF_w s1.2.2.2.2.2 (Or.inr (Or.inl rfl)) (by rw [up2_k (by decide)]; exact z10))
        have s3 := Rr_fld (w := w) (v := 0) s2 (Or.inr (Or.inr (Or.inl ⟨rfl, rfl⟩))) (RF_w s2.2.2.2.2.2 (Or.inr (Or.inr (Or.inl rfl))) (by rw [up2_k (by decide), up2_k (by decide)]; exact z10))
        have s4 := Rr_fld (w := w) (v := -1) s3 (Or.inr (Or.inr (Or.inr (Or.inr (Or.inr (Or.inr (Or.inr (Or.inr ⟨rfl, rfl⟩)))))))) (RF_o s3.2.2.2.2.2 (by decide))
        have s5 := Rr_fld (w := w) (v := 0) s4 (Or.inr (Or.inr (Or.inr (Or.inr (Or.inr (Or.inr (Or.inl ⟨rfl, rfl⟩))))))) (RF_o s4.2.2.2.2.2 (by decide))
        have s6 := Rr_fld (w := w) (v := N0 9 w + 1) s5 (Or.inr (Or.inr (Or.inr (Or.inr (Or.inl ⟨rfl, rfl⟩))))) (RF_o s5.2.2.2.2.2 (by decide))
        refine ok2_s ⟨rfl, s6, RG_c rG (fun j => ?_) (fun j => ?_), ?_⟩
        · dsimp only
          rw [up2_k (by decide), up2_k (by decide), up2_k (by decide), up2_k (by decide), up2_k (by decide), up2_k (by decide)]
        · dsimp only
          rw [up2_k (by decide), up2_k (by decide), up2_k (by decide), up2_k (by decide), up2_k (by decide), up2_k (by decide)]
        · dsimp only
          rw [up2_k (by decide), up2_k (by decide), up2_k (by decide), up2_k (by decide), up2_k (by decide), up2_k (by decide), h13]
      have e32 : (3 : Int32).toInt = 3 := ti_n3
      by_cases c2 : N0 3 w = 2
      · rw [if_pos c2, if_pos (show 2 ≤ (N0 3 w).toInt ∧ (N0 3 w).toInt ≤ 4 by rw [c2, ti_n2]; omega), if_neg (show ¬ (1 : Int32) = 0 by decide)]
        exact be (by rw [c2, ti_n2]; omega)
      · by_cases c3 : N0 3 w = 3
        · rw [if_neg c2, if_pos c3, if_pos (show 2 ≤ (N0 3 w).toInt ∧ (N0 3 w).toInt ≤ 4 by rw [c3, ti_n3]; omega), if_neg (show ¬ (1 : Int32) = 0 by decide)]
          exact be (by rw [c3, ti_n3]; omega)
        · by_cases c4 : N0 3 w = 4
          · rw [if_neg c2, if_neg c3, if_pos c4, if_pos (show 2 ≤ (N0 3 w).toInt ∧ (N0 3 w).toInt ≤ 4 by rw [c4, ti_n4]; omega), if_neg (show ¬ (1 : Int32) = 0 by decide)]
            exact be (by rw [c4, ti_n4]; omega)
          · rw [if_neg c2, if_neg c3, if_neg c4, if_neg (show ¬ (2 ≤ (N0 3 w).toInt ∧ (N0 3 w).toInt ≤ 4) by rw [ti_eq, ti_n2] at c2; rw [ti_eq, ti_n3] at c3; rw [ti_eq, ti_n4] at c4; omega), if_pos rfl]
            exact ok2_s ⟨rfl, rR, rG, h13⟩
    · rw [if_neg a, if_neg a, if_pos rfl]
      exact ok2_s ⟨rfl, rR, rG, h13⟩
  obtain ⟨q, q', e, e', k1, k2, k3, k4⟩ := key
  rw [ey] at e
  rw [ez] at e'
  cases Option.some.inj e
  cases Option.some.inj e'
  exact ⟨_, _, ey, ez, k1, mz, my, k2, k3, by rw [k4]; exact hR.2.2.2.2.1, by rw [k4]; exact hR.2.2.2.2.2⟩
theorem Rs_close (hR : Rs n B C M N) : Ok2 (F_X5_close M) (F_X6_close N) (fun q q' => q.1 = q'.1 ∧ Rs n B C q.2 q'.2) := by
  unfold F_X5_close F_X6_close
  rw [bm_d]
  have h0 := Rs_0 (x := 0) hR
  generalize up2 N 0 0 0 = N0 at h0 ⊢
  have h12 := h0.1.1.1
  have key : ∀ (f f' : Nat) (M N : Mem) (a v : Int32), Rs n B C M N → -1 ≤ v.toInt → v.toInt < n → v.toInt + 1 < f → v.toInt + 1 < f' → Ok2 (L_X5_close_9 (fun M_1 v1_9 v2_9 => some (v1_9, M_1)) f M a v) (L_X6_close_14 (fun M_2 v1_14 v2_14 => some (v1_14, M_2)) f' N a v) (fun q q' => q.1 = q'.1 ∧ Rs n B C q.2 q'.2) := by
    intro f
    induction f with
    | zero => intro f' M N a v hR v0 v1 v2 v3; omega
    | succ f ih =>
      intro f' M N a v hR v0 v1 v2 v3
      cases f' with
      | zero => omega
      | succ f' =>
        rw [L_X5_close_9, L_X6_close_14]
        by_cases d : v.toInt < 0
        · have dn : v < 0 := by rw [ti_lt, ti_n0]; exact d
          rw [if_pos dn, if_pos dn]
          exact ok2_s ⟨rfl, hR⟩
        · have dn : ¬ v < 0 := by rw [ti_lt, ti_n0]; exact d
          rw [if_neg dn, if_neg dn]
          have e1 := ti_dm (a := v) (by omega)
          obtain ⟨w, hw, z1, z2, z3⟩ := wx (n := n) (p1 := v) ⟨by omega, v1⟩
          have g : inb v 12 = true := ti_in (by omega) (by omega)
          rw [show lm 3 = 12 from rfl, g, gd_t, gd_t, gd_t, z2, (hR.2.2.1.1 w (by omega)).2.1]
          by_cases b : N 3 w = 0
          · rw [if_pos b, if_pos b]
            have ue := undo_eq (to := 5) hR hw (by decide)
            rw [← z1] at ue
            exact ok2_l ue (fun M2 N2 h2 => ih f' M2 N2 _ _ h2 (by omega) (by omega) (by omega) (by omega))
          · rw [if_neg b, if_neg b]
            exact ih f' M N _ _ hR (by omega) (by omega) (by omega) (by omega)
  have e0 := h0.2.1.cnt
  have e0' := h0.1.1.wk
  have em : M 0 1 = N0 0 1 := by rw [ti_eq, e0, e0']
  have e1 := ti_dec (a := N0 0 1) (by omega)
  rw [em]
  exact key 4000 4000 M N0 0 _ h0 (by omega) (by omega) (by omega) (by omega)
end ZX
