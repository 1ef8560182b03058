section QX
variable {n : Nat} {M M' N N' : Mem} {w c k s j : Nat} {u v p1 p2 p3 p4 x a b : Int32} {B C : Int}
theorem Rs_loses (hR : Rs n B C M N) : Ok2 (F_X5_loses M p1) (F_X6_loses N p1) (fun q q' => q.1 = q'.1 ∧ Rs n (B + 100) C q.2 q'.2) := by
  obtain ⟨qz, ez, mz⟩ := m_loses (p1 := p1) hR.1
  obtain ⟨qy, ey, my⟩ := s_loses (p1 := p1) hR.2.1
  have key : Ok2 (F_X5_loses M p1) (F_X6_loses N p1) (fun q q' => Rr n q.2 q'.2 ∧ RG q'.2 ∧ q'.2 0 13 = N 0 13) := by
    have h0 := Rs_0 (x := 0) hR
    have h13 : up2 N 0 0 0 0 13 = N 0 13 := up2_j (by decide)
    clear ez ey
    unfold F_X5_loses F_X6_loses
    simp only [bm_d]
    generalize up2 N 0 0 0 = N0 at h0 h13 ⊢
    obtain ⟨rI, rM, rR, rG, rk0, rk1⟩ := id h0
    rw [e6_in, bi_s, ti_n0, ti_n100]
    by_cases c1 : p1.toInt < 0
    · rw [if_pos (show p1 < 0 by rw [ti_lt, ti_n0]; exact c1), if_neg (show ¬ (0 ≤ p1.toInt ∧ p1.toInt ≤ 100) by omega), if_pos rfl]
      exact ok2_s ⟨rR, rG, h13⟩
    · rw [if_neg (show ¬ p1 < 0 by rw [ti_lt, ti_n0]; exact c1)]
      by_cases c2 : p1.toInt ≤ 100
      · rw [if_pos (show p1 ≤ 100 by rw [ti_le, ti_n100]; exact c2), if_pos (show (0 ≤ p1.toInt ∧ p1.toInt ≤ 100) by omega), if_neg (show ¬ (1 : Int32) = 0 by decide)]
        obtain ⟨t1, t2, t3, t4, t5⟩ := rR.2.2.1
        refine ok2_s ⟨Rr_C rR ⟨fun y hy => ?_, fun y hy => ?_, ?_, ?_, fun j hj => ?_⟩ (fun k j k10 k11 k9 k14 k15 => up2_k k9) (fun k j k18 k19 k23 kz => ?_), RG_c (N' := up2 N0 0 22 p1) rG (fun j => up2_k (by decide)) (fun j => up2_k (by decide)), ?_⟩
        · dsimp only
          rw [up2_k (by decide), up2_k (by decide), up2_k (by decide), up2_k (by decide)]; exact t1 y hy
        · dsimp only
          rw [up2_k (by decide), up2_k (by decide), up2_k (by decide), up2_k (by decide)]; exact t2 y hy
        · dsimp only
          rw [up2_s, up2_s]
        · dsimp only
          rw [up2_k (by decide), up2_j (by decide)]; exact t4
        · dsimp only
          rw [up2_k (by decide), up2_k (by decide)]; exact t5 j hj
        · dsimp only
          rw [up2_e, if_neg (by omega)]
        · dsimp only
          rw [up2_j (by decide), h13]
      · rw [if_neg (show ¬ p1 ≤ 100 by rw [ti_le, ti_n100]; exact c2), if_neg (show ¬ (0 ≤ p1.toInt ∧ p1.toInt ≤ 100) by omega), if_pos rfl]
        exact ok2_s ⟨rR, rG, h13⟩
  obtain ⟨q, q', e, e', k2, k3, k4⟩ := key
  rw [ey] at e
  rw [ez] at e'
  cases Option.some.inj e
  cases Option.some.inj e'
  exact ⟨_, _, ey, ez, my.2.trans mz.2.symm, mz.1, my.1, k2, k3, by rw [k4]; exact hR.2.2.2.2.1, by rw [k4]; exact hR.2.2.2.2.2⟩
theorem Rs_state (hR : Rs n B C M N) : Ok2 (F_X5_state M p1 p2) (F_X6_state N p1 p2) (fun q q' => q = q'.1 ∧ Rs n B C M q'.2) := by
  unfold F_X5_state F_X6_state
  rw [bm_d]
  have h0 := Rs_0 (x := 0) hR
  generalize up2 N 0 0 0 = N0 at h0 ⊢
  obtain ⟨rI, rM, rR, rG, rk0, rk1⟩ := id h0
  have h12 := rI.1.1
  rw [e_find rM, bi_s, e6_isWork rI.1, bi_s]
  by_cases a : 0 ≤ p1.toInt ∧ p1.toInt < n
  · rw [if_pos a, if_pos a, if_neg (show ¬ (1 : Int32) = 0 by decide)]
    obtain ⟨w, hw, e1, e2, e3⟩ := wx a
    have g : inb p1 12 = true := ti_in a.1 (by omega)
    rw [show lm 3 = 12 from rfl, show lm 4 = 12 from rfl, show lm 5 = 12 from rfl, show lm 8 = 12 from rfl, g, gd_t, gd_t, gd_t, gd_t, e2]
    obtain ⟨-, a5, a6, a7, a8, -⟩ := rR.1 w (by omega)
    show Ok2 (if p2 = 0 then some (M (16 + 7 * w) 5) else (if p2 = 1 then some (M (16 + 7 * w) 6) else (if p2 = 2 then some (M (16 + 7 * w) 7) else (if p2 = 3 then bi (F_X3_countOf M (M (16 + 7 * w) 0)) fun q_8 => some q_8 else (if p2 = 4 then some (M (16 + 7 * w) 8) else some (-1)))))) _ _
    rw [a5, a6, a7, a8, rM.nm (by omega)]
    by_cases c0 : p2 = 0
    · rw [if_pos c0, if_pos c0]
      exact ok2_s ⟨rfl, h0⟩
    · rw [if_neg c0, if_neg c0]
      by_cases c1 : p2 = 1
      · rw [if_pos c1, if_pos c1]
        exact ok2_s ⟨rfl, h0⟩
      · rw [if_neg c1, if_neg c1]
        by_cases c2 : p2 = 2
        · rw [if_pos c2, if_pos c2]
          exact ok2_s ⟨rfl, h0⟩
        · rw [if_neg c2, if_neg c2]
          by_cases c3 : p2 = 3
          · rw [if_pos c3, if_pos c3]
            have key : ∀ (f f' : Nat) (u v : Int32), 0 ≤ v.toInt → v.toInt ≤ 10 → 10 - v.toInt < f → 10 - v.toInt < f' → Ok2 (bi (L_X3_countOf_4 (fun v2_4 v3_4 => some v2_4) M (nI w) f u v) fun q_8 => some q_8) (L_X6_state_78 (fun v3_78 v4_78 => some (v3_78, N0)) N0 p1 p2 f' u v) (fun q q' => q = q'.1 ∧ Rs n B C M q'.2) := by
              intro f
              induction f with
              | zero => intro f' u v v0 v1 v2 v3; omega
              | succ f ih =>
                intro f' u v v0 v1 v2 v3
                cases f' with
                | zero => omega
                | succ f' =>
                  rw [L_X3_countOf_4, L_X6_state_78]
                  by_cases d : (10 : Int) ≤ v.toInt
                  · have dn : (10 : Int32) ≤ v := by rw [ti_le, ti_n10]; exact d
                    rw [if_pos dn, if_pos dn, bi_s]
                    exact ok2_s ⟨rfl, h0⟩
                  · have dn : ¬ (10 : Int32) ≤ v := by rw [ti_le, ti_n10]; exact d
                    have e4 := ti_inc (a := v) (by omega)
                    obtain ⟨c, hc, z1, z2, z3⟩ := wx (n := 10) (p1 := v) ⟨by omega, by omega⟩
                    rw [if_neg dn, if_neg dn, show lm 16 = 10 from rfl, show ln 5 = 10 from rfl, ti_in (n := 10) v0 (by omega), gd_t, gd_t, z2]
                    have ho := hold_iff rR.2.2.1 rM rI.1 hc (show w < 12 by omega)
                    have hw2 := own_iff rI.1 (c := c) (show w < 12 by omega)
                    rw [← e1] at hw2
                    by_cases q : M 5 c = nI w
                    · rw [if_pos q, if_pos (hw2.mpr (ho.mp q))]
                      exact ih f' _ _ (by omega) (by omega) (by omega) (by omega)
                    · rw [if_neg q, if_neg (fun y => q (ho.mpr (hw2.mp y)))]
                      exact ih f' _ _ (by omega) (by omega) (by omega) (by omega)
            unfold F_X3_countOf
            exact key 4000 4000 0 0 (by rw [ti_n0]; omega) (by rw [ti_n0]; omega) (by rw [ti_n0]; omega) (by rw [ti_n0]; omega)
          · rw [if_neg c3, if_neg c3]
            by_cases c4 : p2 = 4
            · rw [if_pos c4, if_pos c4]
              exact ok2_s ⟨rfl, h0⟩
            · rw [if_neg c4, if_neg c4]
              exact ok2_s ⟨rfl, h0⟩
  · rw [if_neg a, if_neg a, if_pos rfl]
    exact ok2_s ⟨rfl, h0⟩
theorem Rs_has (hR : Rs n B C M N) : Ok2 (F_X5_has M p1) (F_X6_has N p1) (fun q q' => q = q'.1 ∧ Rs n B C M q'.2) := by
  unfold F_X5_has F_X6_has
  rw [bm_d]
  have h0 := Rs_0 (x := 0) hR
  generalize up2 N 0 0 0 = N0 at h0 ⊢
  rw [e_isCopy, bi_s, e6_in, bi_s, ti_n0, ti_n9]
  by_cases a : 0 ≤ p1.toInt ∧ p1.toInt < 10
  · obtain ⟨c, hc, z1, z2, z3⟩ := wx (n := 10) (p1 := p1) a
    rw [if_pos a, if_neg (show ¬ (1 : Int32) = 0 by decide), if_pos (show 0 ≤ p1.toInt ∧ p1.toInt ≤ 9 by omega), if_neg (show ¬ (1 : Int32) = 0 by decide), show lm 16 = 10 from rfl, show ln 5 = 10 from rfl, ti_in (n := 10) a.1 (by omega), gd_t, gd_t, z2]
    refine ok2_s ⟨?_, h0⟩
    have := (h0.2.2.1.2.2.1.1 c hc).2
    have ho := h0.1.1.ow (j := c)
    show M 5 c = N0 16 c - 1
    rw [ti_eq, ti_dec (by omega), this]
  · rw [if_neg a, if_pos rfl, if_neg (show ¬ (0 ≤ p1.toInt ∧ p1.toInt ≤ 9) by omega), if_pos rfl]
    exact ok2_s ⟨rfl, h0⟩
theorem Rs_log (hR : Rs n B C M N) : Ok2 (F_X5_log M p1) (F_X6_log N p1) (fun q q' => q = q'.1 ∧ Rs n B C M q'.2) := by
  unfold F_X5_log F_X6_log
  rw [bm_d]
  have h0 := Rs_0 (x := 0) hR
  generalize up2 N 0 0 0 = N0 at h0 ⊢
  have hl := h0.1.1.lg
  have e14 : M 14 0 = N0 0 27 := h0.2.2.1.2.2.1.2.2.2.1
  have e0 : (0 : Int32).toNatClampNeg = 0 := by decide
  rw [e_item rw_13 h0.2.1, e0, bi_s, e6_in, bi_s, ti_n0, ti_dec (by omega)]
  show Ok2 (some (if (0 ≤ (0 : Int) ∧ (0 : Int) < ((1 : Nat) : Int)) ∧ 0 ≤ p1.toInt ∧ p1.toInt < (M 14 0).toInt then M 15 (0 * 300 + p1.toNatClampNeg) else -1)) _ _
  rw [e14]
  by_cases a : 0 ≤ p1.toInt ∧ p1.toInt < (N0 0 27).toInt
  · rw [if_pos ⟨⟨by omega, by omega⟩, a⟩, if_pos (show 0 ≤ p1.toInt ∧ p1.toInt ≤ (N0 0 27).toInt - 1 by omega), if_neg (show ¬ (1 : Int32) = 0 by decide), ti_in a.1 (by rw [show lm 23 = 300 from rfl]; omega), gd_t, Nat.zero_mul, Nat.zero_add]
    exact ok2_s ⟨h0.2.2.1.2.2.1.2.2.2.2 _ (by rw [ti_cl]; omega), h0⟩
  · rw [if_neg (fun z => a z.2), if_neg (show ¬ (0 ≤ p1.toInt ∧ p1.toInt ≤ (N0 0 27).toInt - 1) by omega), if_pos rfl]
    exact ok2_s ⟨rfl, h0⟩
theorem Rs_value (hR : Rs n B C M N) : Ok (F_X6_value N p1) (fun q' => Rs n B C M q'.2 ∧ ((0 ≤ p1.toInt ∧ p1.toInt < 10 ∧ q'.2 0 0 = 0 ∧ q'.1 = M 3 p1.toNatClampNeg) ∨ ((p1.toInt < 0 ∨ 10 ≤ p1.toInt) ∧ q'.2 0 0 = 1 ∧ q'.1 = 0))) := by
  unfold F_X6_value
  rw [e6_in, bi_s, ti_n0, ti_n9, bm_d, bm_d, up2_s, up2_s]
  by_cases a : 0 ≤ p1.toInt ∧ p1.toInt ≤ 9
  · rw [if_pos a, if_neg (show ¬ (1 : Int32) = 0 by decide), if_pos (show (0 : Int32) ≤ 0 by decide), ti_in a.1 (by rw [show lm 17 = 10 from rfl]; omega), gd_t]
    have h0 := Rs_0 (x := 0) hR
    refine ok_s ⟨h0, Or.inl ⟨a.1, by omega, ?_, ?_⟩⟩
    · dsimp only
      rw [up2_s]
    · exact ((h0.2.2.1.2.2.1.1 p1.toNatClampNeg (by rw [ti_cl]; omega)).1).symm
  · rw [if_neg a, if_pos rfl, if_neg (show ¬ (1 : Int32) ≤ 0 by decide)]
    refine ok_s ⟨Rs_0 (x := 1) hR, Or.inr ⟨by omega, ?_, rfl⟩⟩
    dsimp only
    rw [up2_s]
theorem Rs_mail (hR : Rs n B C M N) : Ok (F_X6_mail N p1 p2) (fun q' => Rs n B C M q'.2) := by
  unfold F_X6_mail
  refine ok_m ?_
  have h0 := Rs_0 (x := 0) hR
  generalize up2 N 0 0 0 = N0 at h0 ⊢
  have h12 := h0.1.1.1
  refine ok_b (m_isWork h0.1.1) (fun q hq => ?_)
  rcases hq with ⟨rfl, hw⟩ | ⟨rfl, hw⟩
  · refine ok_i (fun c => absurd c (by decide)) (fun _ => ok_b (m_isWork h0.1.1) (fun q hq => ?_))
    rcases hq with ⟨rfl, hv⟩ | ⟨rfl, hv⟩
    · have e := m_pair (p1 := p2) (p2 := p1) hv.1 (by omega) hw.1 (by omega)
      exact ok_i (fun c => absurd c (by decide)) (fun _ => ok_g (ti_in (by omega) (by rw [show lm 18 = 144 from rfl]; omega)) (ok_s h0))
    · exact ok_i (fun _ => ok_s h0) (fun c => absurd rfl c)
  · exact ok_i (fun _ => ok_s h0) (fun c => absurd rfl c)
/-- line: the place of each in line is the number of those ahead -/
theorem Rs_line (hR : Rs n B C M N) : Ok2 (F_X5_line M p1 p2) (F_X6_line N p1 p2) (fun q q' => q = q'.1 ∧ Rs n B C M q'.2) := by
  unfold F_X5_line F_X6_line
  rw [bm_d]
  have h0 := Rs_0 (x := 0) hR
  generalize up2 N 0 0 0 = N0 at h0 ⊢
  obtain ⟨rI, rM, rR, rG, rk0, rk1⟩ := id h0
  have h12 := rI.1.1
  have hD := rR.2.2.2.1
  rw [e_item rw_6 rM, bi_s]
  by_cases a : 0 ≤ p1.toInt ∧ p1.toInt < 10
  · obtain ⟨c, hc, z1, z2, z3⟩ := wx (n := 10) (p1 := p1) a
    have h7 := rM.l7 c
    rw [z2]
    have key : ∀ (f : Nat) (v : Int32), 0 ≤ v.toInt → v.toInt ≤ n → 12 - v.toInt < f → (∀ y : Nat, (y : Int) < v.toInt → ∀ l1 l2, rl M c = l1 ++ nI y :: l2 → (l1.length : Int) ≠ p2.toInt) → Ok (L_X6_line_7 (fun v3_7 => some ((-1), N0)) N0 p1 p2 f v) (fun q' => q' = ((if (0 ≤ p1.toInt ∧ p1.toInt < ((10 : Nat) : Int)) ∧ 0 ≤ p2.toInt ∧ p2.toInt < (M (6 + 1) c).toInt then M (6 + 2) (c * 12 + p2.toNatClampNeg) else -1), N0)) := by
      intro f
      induction f with
      | zero => intro v v0 v1 v2; omega
      | succ f ih =>
        intro v v0 v1 v2 v3
        rw [L_X6_line_7]
        refine ok_i (fun d => ok_s ?_) (fun d => ?_)
        · rw [ti_le, rI.1.wk] at d
          rw [if_neg]
          rintro ⟨-, y1, y2⟩
          have y2 : p2.toInt < (M 7 c).toInt := y2
          have hlt : p2.toInt.toNat < (rl M c).length := by rw [rl_len]; omega
          obtain ⟨y, hy, ey⟩ := rd_k hD hc ((rl M c)[p2.toInt.toNat]) (List.getElem_mem hlt)
          have hs : rl M c = (rl M c).take p2.toInt.toNat ++ nI y :: (rl M c).drop (p2.toInt.toNat + 1) := by
            rw [← ey, List.getElem_cons_drop, List.take_append_drop]
          refine v3 y (by omega) _ _ hs ?_
          rw [List.length_take]
          omega
        · rw [ti_le, rI.1.wk] at d
          have e1 := ti_inc (a := v) (by omega)
          rw [e6_in, bi_s, ti_n0, ti_n9, if_pos (show 0 ≤ p1.toInt ∧ p1.toInt ≤ 9 by omega), if_neg (show ¬ (1 : Int32) = 0 by decide)]
          obtain ⟨y, hy, y1, y2, y3⟩ := wx (n := n) (p1 := v) ⟨v0, by omega⟩
          have g : inb v 12 = true := ti_in v0 (by omega)
          have nx : (∀ l1 l2, rl M c = l1 ++ nI y :: l2 → (l1.length : Int) ≠ p2.toInt) → Ok (L_X6_line_7 (fun v3_7 => some ((-1), N0)) N0 p1 p2 f (v + 1)) (fun q' => q' = ((if (0 ≤ p1.toInt ∧ p1.toInt < ((10 : Nat) : Int)) ∧ 0 ≤ p2.toInt ∧ p2.toInt < (M (6 + 1) c).toInt then M (6 + 2) (c * 12 + p2.toNatClampNeg) else -1), N0)) := by
            intro hn
            refine ih _ (by omega) (by omega) (by omega) (fun y' hy' l1 l2 hl => ?_)
            by_cases q : (y' : Int) < v.toInt
            · exact v3 y' q l1 l2 hl
            · have : y' = y := by omega
              rw [this] at hl
              exact hn l1 l2 hl
          refine ok_g g (ok_i (fun d2 => ?_) (fun d2 => nx (fun l1 l2 hl => ?_)))
          · have hin : nI y ∈ rl M c := (rd_mem hD h12 hc hy).mpr (by rw [← w10_iff hc, ← z1, ← y2]; exact d2)
            obtain ⟨l1, l2, hl⟩ := List.append_of_mem hin
            have hah := ah_in hD h12 hc hy hl
            have hlen := congrArg List.length hl
            rw [rl_len, List.length_append, List.length_cons] at hlen
            refine ok_b (e_ahead (p1 := p1) (p2 := v) rI.1 v0 (by omega)) (fun q hq => ?_)
            rw [z1, y1, hah] at hq
            refine ok_i (fun d3 => ok_s ?_) (fun d3 => nx (fun l1' l2' hl' => ?_))
            · rw [← d3, hq]
              have hg := rl_get (M := M) (c := c) (i := l1.length) (by omega)
              rw [hl, List.getElem?_append_right (Nat.le_refl _), Nat.sub_self] at hg
              have hg2 : nI y = M 8 (c * 12 + l1.length) := Option.some.inj hg
              rw [if_pos ⟨⟨a.1, by omega⟩, by omega, show (l1.length : Int) < (M 7 c).toInt by omega⟩, show q.toNatClampNeg = l1.length from cl_of hq, y1, hg2]
            · have hah' := ah_in hD h12 hc hy hl'
              intro h9
              apply d3
              rw [ti_eq, hq, ← h9]
              omega
          · exfalso
            apply d2
            rw [y2, z1, w10_iff hc]
            exact (rd_mem hD h12 hc hy).mp (by rw [hl]; exact List.mem_append_right _ (List.mem_cons_self ..))
    obtain ⟨q', e', hq'⟩ := key 4000 0 (by rw [ti_n0]; omega) (by rw [ti_n0]; omega) (by rw [ti_n0]; omega) (fun y hy => by rw [ti_n0] at hy; omega)
    rw [e']
    subst hq'
    exact ok2_s ⟨rfl, h0⟩
  · rw [if_neg (fun z => a ⟨z.1.1, by have := z.1.2; omega⟩)]
    have e6 : L_X6_line_7 (fun v3_7 => some ((-1), N0)) N0 p1 p2 4000 0 = some (-1, N0) := by
      rw [show (4000 : Nat) = 3999 + 1 from rfl, L_X6_line_7]
      by_cases d : (N0 0 1) ≤ 0
      · rw [if_pos d]
      · rw [if_neg d, e6_in, bi_s, ti_n0, ti_n9, if_neg (show ¬ (0 ≤ p1.toInt ∧ p1.toInt ≤ 9) by omega), if_pos rfl]
    rw [e6]
    exact ok2_s ⟨rfl, h0⟩
end QX
