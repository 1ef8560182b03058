section MD
variable {n : Nat} {N : Mem} {p1 p2 c2 : Int32} {B : Int}
/-- a line of the log -/
def lgN (N : Mem) (w s : Int32) : Mem := if 300 ≤ N 0 27 then N else up2 (up2 N 23 (N 0 27).toNatClampNeg ((100 * w) + s)) 0 27 (N 0 27 + 1)
theorem lg_f {w s : Int32} {a b : Nat} (h1 : a ≠ 23) (h3 : a ≠ 0 ∨ b ≠ 27) : lgN N w s a b = N a b := by
  unfold lgN
  by_cases c : 300 ≤ N 0 27
  · rw [if_pos c]
  · rw [if_neg c, up2_e, if_neg (by omega), up2_k h1]
theorem lg_M {w s : Int32} (hN : MT n N) : MT n (lgN N w s) := by
  unfold lgN
  by_cases c : 300 ≤ N 0 27
  · rw [if_pos c]; exact hN
  · rw [if_neg c]
    rw [ti_le, ti_n300] at c
    have h := hN.lg
    have e := ti_inc (a := N 0 27) (by omega)
    exact (hN.up (tm_f (by decide))).up (tm_lg (by omega))
theorem lg_L {w s : Int32} : La (lgN N w s) = La N := la_c (fun j => lg_f (by decide) (Or.inl (by decide))) (lg_f (by decide) (Or.inr (by decide)))
/-- what acts leaves -/
def AcP (w : Int32) (n : Nat) (N N' : Mem) : Prop :=
  ∃ N1 N3 N4, A1 w (N 4 w.toNatClampNeg) n N N1 ∧ N3 = sdl w (N 4 w.toNatClampNeg) (lgN N1 w (N 4 w.toNatClampNeg)) ((lgN N1 w (N 4 w.toNatClampNeg)) 14 ((10 * w) + (N 4 w.toNatClampNeg)).toNatClampNeg).toInt.toNat ∧ La N3 = La N ∧ N4 = up2 (up2 N3 4 w.toNatClampNeg (N3 4 w.toNatClampNeg + 1)) 5 w.toNatClampNeg 0 ∧ MT n N4 ∧ ((N4 4 w.toNatClampNeg = N4 1 w.toNatClampNeg ∧ ∃ N5, FrP w n N4 N5 ∧ N' = up2 N5 3 w.toNatClampNeg 1) ∨ (N4 4 w.toNatClampNeg ≠ N4 1 w.toNatClampNeg ∧ N' = N4))
theorem a1_L {w s : Int32} {N' : Mem} (h : A1 w s n N N') : La N' = La N := la_c (fun j => h.2.1 19 j (by decide) (by decide) (by decide) (by decide) (Or.inl (by decide))) (h.2.1 0 22 (by decide) (by decide) (by decide) (by decide) (Or.inr (by decide)))
theorem m_acts (hN : MT n N) (hB : B ≤ 1000000) (hL : La N ≤ B) (h0 : 0 ≤ p1.toInt) (h1 : p1.toInt < 12) (hs : (N 4 p1.toNatClampNeg).toInt < 10) (hb : (N 0 23).toInt ≤ 1190) : Ok (F_X6_acts N p1) (AcP p1 n N) := by
  unfold F_X6_acts
  have gw : inb p1 12 = true := ti_in h0 (by omega)
  have hs0 := (hN.sp (j := p1.toNatClampNeg)).1
  refine ok_g gw (m_ac1 (N0 := N) (n := n) h0 h1 hb (fun N1 b1 hA => ?_) 4000 N 0 hN (fun _ _ _ _ _ _ _ => rfl) (fun j => ?_) ?_ (by rw [ti_n0]; omega) (by rw [ti_n0]; omega) (by rw [ti_n0]; omega))
  · have lL : La (lgN N1 p1 (N 4 p1.toNatClampNeg)) = La N := by rw [lg_L, a1_L hA]
    have hM2 : MT n (lgN N1 p1 (N 4 p1.toNatClampNeg)) := lg_M hA.1
    have fin : ∀ (K : Mem → Int32 → Option Mem), (∀ N3 b, K N3 b = (gd (inb p1 (lm 4)) <| gd (inb p1 (lm 4)) <| bm (up2 N3 4 p1.toNatClampNeg ((N3 4 p1.toNatClampNeg) + 1)) fun M_32 => gd (inb p1 (lm 5)) <| bm (up2 M_32 5 p1.toNatClampNeg 0) fun M_34 => gd (inb p1 (lm 4)) <| gd (inb p1 (lm 1)) <| (if (M_34 4 p1.toNatClampNeg) = (M_34 1 p1.toNatClampNeg) then bi (F_X6_frees M_34 p1) fun q_38 => gd (inb p1 (lm 3)) <| bm (up2 q_38 3 p1.toNatClampNeg 1) fun M_42 => some M_42 else some M_34))) → Ok (L_X6_acts_139 K (N 4 p1.toNatClampNeg) p1 4000 (lgN N1 p1 (N 4 p1.toNatClampNeg)) 0) (AcP p1 n N) := by
      intro K hK
      refine m_ac2 (N0 := lgN N1 p1 (N 4 p1.toNatClampNeg)) (n := n) hB h0 h1 hs0 hs (by omega) (fun N3 b hM3 hL3 e3 => ?_) 4000 _ 0 hM2 rfl (by rw [ti_n0]; rfl) (by rw [ti_n0]; omega) (by rw [ti_n0]; exact hM2.sc.1) (by rw [ti_n0]; omega)
      rw [hK]
      have e4 : N3 4 p1.toNatClampNeg = N 4 p1.toNatClampNeg := by
        rw [e3, sdl_f (by decide) (by decide) (Or.inl (by decide)), lg_f (by decide) (Or.inl (by decide)), hA.2.1 _ _ (by decide) (by decide) (by decide) (by decide) (Or.inl (by decide))]
      have ei := ti_inc (a := N 4 p1.toNatClampNeg) (by omega)
      have hM4 : MT n (up2 (up2 N3 4 p1.toNatClampNeg (N3 4 p1.toNatClampNeg + 1)) 5 p1.toNatClampNeg 0) := (hM3.up (tm_sp (by rw [e4, ei]; omega))).up (tm_gt (by rw [ti_n0]; omega))
      refine ok_g gw (ok_g gw (ok_m (ok_g gw (ok_m (ok_g gw (ok_g gw (ok_i (fun c => ?_) (fun c => ?_))))))))
      · exact ok_b (m_frees hM4 h0 h1) (fun N5 h5 => ok_g gw (ok_m (ok_s ⟨N1, N3, _, hA, e3, by rw [hL3, lL], rfl, hM4, Or.inl ⟨c, N5, h5, rfl⟩⟩)))
      · exact ok_s ⟨N1, N3, _, hA, e3, by rw [hL3, lL], rfl, hM4, Or.inr ⟨c, rfl⟩⟩
    refine ok_i (fun c => ?_) (fun c => ?_)
    · have e : lgN N1 p1 (N 4 p1.toNatClampNeg) = N1 := by unfold lgN; rw [if_pos c]
      have := fin _ (fun N3 b => rfl)
      rw [e] at this
      exact this
    · have e : lgN N1 p1 (N 4 p1.toNatClampNeg) = up2 (up2 N1 23 (N1 0 27).toNatClampNeg ((100 * p1) + (N 4 p1.toNatClampNeg))) 0 27 (N1 0 27 + 1) := by unfold lgN; rw [if_neg c]
      rw [ti_le, ti_n300] at c
      have hg := hA.1.lg
      refine ok_g (ti_in hg.1 (by rw [show lm 23 = 300 from rfl]; omega)) (ok_m (ok_m ?_))
      rw [up2_k (show (0 : Nat) ≠ 23 by decide)]
      have := fin _ (fun N3 b => rfl)
      rw [e] at this
      exact this
  · rw [ti_n0, if_neg (by omega)]
  · rw [ti_n0]
    show cL N = cL N ++ []
    rw [List.append_nil]
/-- what acts leaves, as far as its end needs -/
theorem AcP.f {w : Int32} {N' : Mem} (h : AcP w n N N') (hs : (N 4 w.toNatClampNeg).toInt < 10) : MT n N' ∧ La N' = La N ∧ (∀ j, N' 1 j = N 1 j) ∧ (∀ j, j ≠ w.toNatClampNeg → N' 3 j = N 3 j ∧ N' 4 j = N 4 j ∧ N' 5 j = N 5 j) ∧ (N' 4 w.toNatClampNeg).toInt = (N 4 w.toNatClampNeg).toInt + 1 ∧ N' 5 w.toNatClampNeg = 0 ∧ (((N 4 w.toNatClampNeg).toInt + 1 = (N 1 w.toNatClampNeg).toInt ∧ N' 3 w.toNatClampNeg = 1 ∧ cL N' = (cL N ++ own w N 10).filter (fun e => decide (¬ e.1 = w))) ∨ ((N 4 w.toNatClampNeg).toInt + 1 ≠ (N 1 w.toNatClampNeg).toInt ∧ N' 3 w.toNatClampNeg = N 3 w.toNatClampNeg ∧ cL N' = cL N ++ own w N 10)) := by
  obtain ⟨N1, N3, N4, hA, e3, hL, e4, hM4, h⟩ := h
  have f3 : ∀ a b : Nat, a ≠ 17 → a ≠ 18 → a ≠ 19 → a ≠ 20 → a ≠ 21 → a ≠ 22 → a ≠ 23 → a ≠ 0 → N3 a b = N a b := by
    intro a b h17 h18 h19 h20 h21 h22 h23 h0
    rw [e3, sdl_f h18 h19 (Or.inl h0), lg_f h23 (Or.inl h0), hA.2.1 _ _ h17 h20 h21 h22 (Or.inl h0)]
  have f4 : ∀ a b : Nat, a ≠ 4 → a ≠ 5 → N4 a b = N3 a b := by
    intro a b h4 h5
    rw [e4, up2_k h5, up2_k h4]
  have fx : ∀ a b : Nat, a ≠ 18 → a ≠ 19 → a ≠ 23 → (a ≠ 0 ∨ b ≠ 22) → (a ≠ 0 ∨ b ≠ 27) → N3 a b = N1 a b := by
    intro a b h18 h19 h23 h0 h1
    rw [e3, sdl_f h18 h19 h0, lg_f h23 h1]
  have c3 : cL N3 = cL N1 := by
    unfold cL
    rw [fx 0 23 (by decide) (by decide) (by decide) (by decide) (by decide)]
    exact cl_c (fun k _ => ⟨fx _ _ (by decide) (by decide) (by decide) (Or.inl (by decide)) (Or.inl (by decide)), fx _ _ (by decide) (by decide) (by decide) (Or.inl (by decide)) (Or.inl (by decide)), fx _ _ (by decide) (by decide) (by decide) (Or.inl (by decide)) (Or.inl (by decide))⟩)
  have c4 : cL N4 = cL N ++ own w N 10 := by
    rw [← hA.2.2.2, ← c3]
    unfold cL
    rw [f4 0 23 (by decide) (by decide)]
    exact cl_c (fun k _ => ⟨f4 _ _ (by decide) (by decide), f4 _ _ (by decide) (by decide), f4 _ _ (by decide) (by decide)⟩)
  have hs0 := hM4.sp (j := w.toNatClampNeg)
  have x4 : (N4 4 w.toNatClampNeg).toInt = (N 4 w.toNatClampNeg).toInt + 1 := by
    rw [e4, up2_k (by decide), up2_s, f3 4 _ (by decide) (by decide) (by decide) (by decide) (by decide) (by decide) (by decide) (by decide), ti_inc (by omega)]
  have x5 : N4 5 w.toNatClampNeg = 0 := by rw [e4, up2_s]
  have x1 : ∀ j, N4 1 j = N 1 j := fun j => by rw [f4 1 j (by decide) (by decide), f3 1 j (by decide) (by decide) (by decide) (by decide) (by decide) (by decide) (by decide) (by decide)]
  have x3 : ∀ j, N4 3 j = N 3 j := fun j => by rw [f4 3 j (by decide) (by decide), f3 3 j (by decide) (by decide) (by decide) (by decide) (by decide) (by decide) (by decide) (by decide)]
  have x4j : ∀ j, j ≠ w.toNatClampNeg → N4 4 j = N 4 j := fun j hj => by rw [e4, up2_k (by decide), up2_j hj, f3 4 j (by decide) (by decide) (by decide) (by decide) (by decide) (by decide) (by decide) (by decide)]
  have x5j : ∀ j, j ≠ w.toNatClampNeg → N4 5 j = N 5 j := fun j hj => by rw [e4, up2_j hj, up2_k (by decide), f3 5 j (by decide) (by decide) (by decide) (by decide) (by decide) (by decide) (by decide) (by decide)]
  have L4 : La N4 = La N := by rw [← hL]; exact la_c (fun j => f4 _ _ (by decide) (by decide)) (f4 _ _ (by decide) (by decide))
  rcases h with ⟨d, N5, h5, rfl⟩ | ⟨d, rfl⟩
  · obtain ⟨hM5, r1, r2, r3, r4⟩ := h5
    have r : ∀ k j, k ≠ 16 → k ≠ 10 → k ≠ 20 → k ≠ 21 → k ≠ 22 → k ≠ 0 → N5 k j = N4 k j := fun k j a b c d e f => r1 k j a b c d e (Or.inl f)
    refine ⟨hM5.up (tm_f (by decide)), ?_, fun j => ?_, fun j hj => ⟨?_, ?_, ?_⟩, ?_, ?_, Or.inl ⟨?_, ?_, ?_⟩⟩
    · rw [← L4]
      exact la_c (fun j => by rw [up2_k (by decide), r 19 j (by decide) (by decide) (by decide) (by decide) (by decide) (by decide)]) (by rw [up2_k (by decide), r1 0 22 (by decide) (by decide) (by decide) (by decide) (by decide) (Or.inr (by decide))])
    · rw [up2_k (by decide), r 1 j (by decide) (by decide) (by decide) (by decide) (by decide) (by decide), x1]
    · rw [up2_j hj, r 3 j (by decide) (by decide) (by decide) (by decide) (by decide) (by decide), x3]
    · rw [up2_k (by decide), r 4 j (by decide) (by decide) (by decide) (by decide) (by decide) (by decide), x4j j hj]
    · rw [up2_k (by decide), r 5 j (by decide) (by decide) (by decide) (by decide) (by decide) (by decide), x5j j hj]
    · rw [up2_k (by decide), r 4 _ (by decide) (by decide) (by decide) (by decide) (by decide) (by decide), x4]
    · rw [up2_k (by decide), r 5 _ (by decide) (by decide) (by decide) (by decide) (by decide) (by decide), x5]
    · rw [← x4, ← x1, d]
    · rw [up2_s]
    · rw [← c4, ← r4]
      unfold cL
      rw [up2_k (by decide)]
      exact cl_c (fun k _ => ⟨up2_k (by decide), up2_k (by decide), up2_k (by decide)⟩)
  · refine ⟨hM4, L4, x1, fun j hj => ⟨x3 j, x4j j hj, x5j j hj⟩, x4, x5, Or.inr ⟨?_, x3 _, c4⟩⟩
    rw [← x4, ← x1]
    exact fun q => d (ti_eq.mpr q)
end MD
