section AX
variable {n : Nat} {M M' N N' : Mem} {w c k : Nat} {u v s : Int32}
/-- nobody stands in line for a copy that he has -/
def RG (N : Mem) : Prop := ∀ w c : Nat, w < 12 → c < 10 → (N 10 w).toInt = c + 1 → (N 16 c).toInt ≠ w + 1
theorem RG_c (h : RG N) (h10 : ∀ j, N' 10 j = N 10 j) (h16 : ∀ j, N' 16 j = N 16 j) : RG N' := by
  intro w c hw hc e
  rw [h10] at e
  rw [h16]
  exact h w c hw hc e
theorem bi_s {α β : Type} {a : α} {f : α → Option β} : bi (some a) f = f a := rfl
theorem gd_t {α : Type} {x : Option α} : gd true x = x := rfl
theorem bm_d {β : Type} {A : Mem} {f : Mem → β} : bm A f = f A := rfl
theorem up2_no {A : Mem} {j : Nat} (h : A k j = v) : up2 A k j v = A := by
  funext a b
  rw [up2_e]
  by_cases q : a = k ∧ b = j
  · rw [if_pos q, q.1, q.2, h]
  · rw [if_neg q]
theorem e_write (hM : CI n M) : F_X0_write M u v = some (if (M 14 0).toInt < 300 then up2 (up2 M 15 (M 14 0).toNatClampNeg ((100 * u) + v)) 14 0 (M 14 0 + 1) else M) := by
  unfold F_X0_write
  rw [e_add rw_13 hM (by rw [ti_n0]; omega) (by rw [ti_n0]; omega)]
  show some (Prod.snd _) = _
  have e0 : (0 : Int32).toNatClampNeg = 0 := by decide
  rw [e0]
  by_cases h : (M 14 0).toInt < 300
  · rw [if_pos (show (M (13 + 1) 0).toInt < ((300 : Nat) : Int) from h), if_pos h, Nat.zero_mul, Nat.zero_add]
  · rw [if_neg (show ¬ (M (13 + 1) 0).toInt < ((300 : Nat) : Int) from h), if_neg h]
theorem Rr_log (h : Rr n M N) (hM : CI n M) (hN : MT n N) : Ok (F_X0_write M u v) (fun M' => CI n M' ∧ Rr n M' (lgN N u v) ∧ ∀ k j, k ≠ 14 → k ≠ 15 → M' k j = M k j) := by
  refine ok_and (s_write hM) ?_
  rw [e_write hM]
  have hl := hN.lg
  have e14 : M 14 0 = N 0 27 := h.2.2.1.2.2.2.1
  refine ok_s ?_
  unfold lgN
  by_cases hc : (M 14 0).toInt < 300
  · rw [if_pos hc, if_neg (by rw [ti_le, ti_n300, ← e14]; omega), e14]
    have hk : (N 0 27).toNatClampNeg < 300 := by rw [e14] at hc; rw [ti_cl]; omega
    refine ⟨Rr_C h ?_ (fun k j k10 k11 k9 k14 k15 => by rw [up2_k k14, up2_k k15]) (fun k j k18 k19 k23 kz => by rw [up2_e, if_neg (by omega), up2_k k23]), fun k j k14 k15 => by rw [up2_k k14, up2_k k15]⟩
    obtain ⟨a, b, c, d, e⟩ := h.2.2.1
    refine ⟨fun x hx => ?_, fun x hx => ?_, ?_, ?_, fun j hj => ?_⟩
    · rw [up2_k (by decide), up2_k (by decide), up2_k (by decide), up2_k (by decide), up2_k (by decide), up2_k (by decide), up2_k (by decide), up2_k (by decide)]
      exact a x hx
    · rw [up2_k (by decide), up2_k (by decide), up2_k (by decide), up2_k (by decide), up2_k (by decide), up2_k (by decide), up2_k (by decide), up2_k (by decide)]
      exact b x hx
    · rw [up2_k (by decide), up2_k (by decide), up2_j (by decide), up2_k (by decide)]
      exact c
    · rw [up2_s, up2_s]
    · rw [up2_k (show (15 : Nat) ≠ 14 by decide), up2_k (show (23 : Nat) ≠ 0 by decide)]
      by_cases hj2 : j = (N 0 27).toNatClampNeg
      · rw [hj2, up2_s, up2_s]
      · rw [up2_j hj2, up2_j hj2]
        exact e j hj
  · rw [if_neg hc, if_pos (by rw [ti_le, ti_n300, ← e14]; omega)]
    exact ⟨h, fun _ _ _ _ => rfl⟩
/-- one message sent, by the class -/
def sdC (M : Mem) (k : Nat) : Mem := if M 9 2 ≤ 0 then up2 M 10 k (M 10 k + 1) else up2 (up2 M 9 2 (M 9 2 - 1)) 11 k (M 11 k + 1)
theorem e_isWay (h0 : 0 ≤ v.toInt) (h1 : v.toInt < 144) : F_X1_isWay M v = some 1 := by
  unfold F_X1_isWay
  have e : (nI (ln 10)).toInt = 144 := by decide
  have e' : (nI (ln 11)).toInt = 144 := by decide
  rw [if_neg (by rw [ti_lt, ti_n0]; omega), if_neg (by rw [ti_le, e]; omega), if_neg (by rw [ti_le, e']; omega)]
theorem e_send (h0 : 0 ≤ v.toInt) (h1 : v.toInt < 144) : F_X1_send M v = some (sdC M v.toNatClampNeg) := by
  unfold F_X1_send
  rw [e_isWay h0 h1]
  have g : inb v 144 = true := ti_in h0 (by omega)
  rw [bi_s, if_neg (by decide), show ln 10 = 144 from rfl, show ln 11 = 144 from rfl, g]
  unfold sdC
  by_cases c : M 9 2 ≤ 0
  · rw [if_pos c, if_pos c]; rfl
  · rw [if_neg c, if_neg c]
    show some (up2 (up2 M 9 2 (M 9 2 - 1)) 11 _ (up2 M 9 2 (M 9 2 - 1) 11 _ + 1)) = _
    rw [up2_k (show (11 : Nat) ≠ 9 by decide)]
theorem sdC_f {a b : Nat} (h1 : a ≠ 9) (h2 : a ≠ 10) (h3 : a ≠ 11) : sdC M k a b = M a b := by
  unfold sdC
  by_cases c : M 9 2 ≤ 0
  · rw [if_pos c, up2_k h2]
  · rw [if_neg c, up2_k h3, up2_k h1]
theorem Rr_send (h : Rr n M N) (hk : k < 144) : Rr n (sdC M k) (sdN N k) := by
  obtain ⟨a, b, c, d, e⟩ := h.2.2.1
  refine Rr_C h ?_ (fun k j k10 k11 k9 k14 k15 => sdC_f k9 k10 k11) (fun k j k18 k19 k23 kz => sd_f k18 k19 (by omega))
  refine ⟨fun x hx => ?_, fun x hx => ?_, ?_, ?_, fun j hj => ?_⟩
  · rw [sdC_f (by decide) (by decide) (by decide), sdC_f (by decide) (by decide) (by decide), sd_f (by decide) (by decide) (Or.inl (by decide)), sd_f (by decide) (by decide) (Or.inl (by decide))]
    exact a x hx
  · obtain ⟨b1, b2⟩ := b x hx
    obtain ⟨b3, b4⟩ := b k hk
    unfold sdC sdN
    rw [c]
    by_cases q : N 0 22 ≤ 0
    · rw [if_pos q, if_pos q, up2_k (show (11 : Nat) ≠ 10 by decide), up2_k (show (19 : Nat) ≠ 18 by decide)]
      refine ⟨?_, b2⟩
      by_cases hx : x = k
      · rw [hx, up2_s, up2_s, b3]
      · rw [up2_j hx, up2_j hx, b1]
    · rw [if_neg q, if_neg q, up2_k (show (10 : Nat) ≠ 11 by decide), up2_k (show (10 : Nat) ≠ 9 by decide), up2_k (show (18 : Nat) ≠ 19 by decide), up2_k (show (18 : Nat) ≠ 0 by decide)]
      refine ⟨b1, ?_⟩
      by_cases hx : x = k
      · rw [hx, up2_s, up2_s, b4]
      · rw [up2_j hx, up2_j hx, up2_k (by decide), up2_k (by decide), b2]
  · unfold sdC sdN
    rw [c]
    by_cases q : N 0 22 ≤ 0
    · rw [if_pos q, if_pos q, up2_k (by decide), up2_k (by decide), c]
    · rw [if_neg q, if_neg q, up2_k (show (9 : Nat) ≠ 11 by decide), up2_s, up2_k (show (0 : Nat) ≠ 19 by decide), up2_s]
  · rw [sdC_f (by decide) (by decide) (by decide), sd_f (by decide) (by decide) (Or.inr (by decide)), d]
  · rw [sdC_f (by decide) (by decide) (by decide), sd_f (by decide) (by decide) (Or.inl (by decide))]
    exact e j hj
theorem e_way (h0 : 0 ≤ u.toInt) (h1 : u.toInt < 12) (c0 : 0 ≤ v.toInt) (c1 : v.toInt < 12) : u * 12 + v = 12 * u + v ∧ (u * 12 + v).toInt = 12 * u.toInt + v.toInt := by
  have e : (u * 12 + v).toInt = 12 * u.toInt + v.toInt := by
    have e1 : (u * 12).toInt = u.toInt * 12 := by rw [ti_mul (by rw [ti_n12]; omega) (by rw [ti_n12]; omega), ti_n12]
    rw [ti_add (by omega) (by omega), e1]; omega
  exact ⟨by rw [ti_eq, e, m_pair c0 c1 h0 h1], e⟩
theorem Rr_sends (h : Rr n M N) (hM : CI n M) (hN : MT n N) (hw : w < 12) (hs : (N 4 w).toInt < 10) : Ok (F_X5_sendAll M (16 + 7 * w)) (fun M' => CI n M' ∧ Rr n M' (sdl (nI w) (N 4 w) N (N 14 ((10 * nI w) + N 4 w).toNatClampNeg).toInt.toNat) ∧ ∀ k j, k ≠ 9 → k ≠ 10 → k ≠ 11 → M' k j = M k j) := by
  refine ok_and (s_sendAll hM (wok.of hw)) ?_
  unfold F_X5_sendAll
  have hsp := hN.sp (j := w)
  have ew : (nI w).toInt = w := ti_nI (by omega)
  have e6 : M (16 + 7 * w) 6 = N 4 w := (h.1 w hw).2.2.1
  have ek := m_k10 (p1 := nI w) (c2 := N 4 w) (by omega) (by omega) hsp.1 hs
  have es : (N 4 w).toNatClampNeg = (N 4 w).toInt.toNat := ti_cl
  have ekn : ((10 * nI w) + N 4 w).toNatClampNeg = 10 * w + (N 4 w).toNatClampNeg := by rw [ti_cl]; omega
  have hB := h.2.1 w (N 4 w).toNatClampNeg hw (by omega)
  rw [e6, e_count (rw_w4 (wok.of hw)), if_pos ⟨hsp.1, by omega⟩, ekn]
  have e5 : M (16 + 7 * w + 4 + 1) (N 4 w).toNatClampNeg = N 14 (10 * w + (N 4 w).toNatClampNeg) := hB.2.1
  rw [e5]
  generalize hcnt : N 14 (10 * w + (N 4 w).toNatClampNeg) = cnt
  have hc2 := hN.sc (j := 10 * w + (N 4 w).toNatClampNeg)
  rw [hcnt] at hc2
  have key : ∀ (f : Nat) (Y : Mem) (v : Int32), CI n Y → Rr n Y (sdl (nI w) (N 4 w) N v.toInt.toNat) → (∀ k j, k ≠ 9 → k ≠ 10 → k ≠ 11 → Y k j = M k j) → 0 ≤ v.toInt → v.toInt ≤ cnt.toInt → 2 - v.toInt < f → Ok (L_X5_sendAll_14 (fun M_3 v3_14 => some M_3) cnt (16 + 7 * w) f Y v) (fun M' => Rr n M' (sdl (nI w) (N 4 w) N cnt.toInt.toNat) ∧ ∀ k j, k ≠ 9 → k ≠ 10 → k ≠ 11 → M' k j = M k j) := by
    intro f
    induction f with
    | zero => intro Y v _ _ _ v0 v1 v2; omega
    | succ f ih =>
      intro Y v hY y1 y2 v0 v1 v2
      rw [L_X5_sendAll_14]
      refine ok_i (fun d => ok_s ⟨?_, y2⟩) (fun d => ?_)
      · rw [ti_le] at d
        rw [show cnt.toInt.toNat = v.toInt.toNat by omega]
        exact y1
      · rw [ti_le] at d
        have e1 := ti_inc (a := v) (by omega)
        have z6 : Y (16 + 7 * w) 6 = N 4 w := by rw [y2 _ _ (by omega) (by omega) (by omega), e6]
        have z0 : Y (16 + 7 * w) 0 = nI w := hY.nm hw
        have z5 : Y (16 + 7 * w + 4 + 1) (N 4 w).toNatClampNeg = cnt := by rw [y2 _ _ (by omega) (by omega) (by omega), e5, hcnt]
        rw [z6, z0, e_item (rw_w4 (wok.of hw)) hY, z5, if_pos ⟨⟨hsp.1, by omega⟩, v0, by omega⟩, y2 _ _ (by omega) (by omega) (by omega)]
        have ev : v.toNatClampNeg = v.toInt.toNat := ti_cl
        have e15 : M (16 + 7 * w + 4 + 2) ((N 4 w).toNatClampNeg * 2 + v.toNatClampNeg) = N 15 (2 * (10 * w + (N 4 w).toNatClampNeg) + v.toNatClampNeg) := hB.2.2.2 v.toNatClampNeg (by omega)
        rw [e15]
        have hsd := hN.sd (j := 2 * (10 * w + (N 4 w).toNatClampNeg) + v.toNatClampNeg)
        have ei := m_sdi (p1 := nI w) (c2 := N 4 w) (b := v) (by omega) (by omega) hsp.1 hs v0 (by omega)
        have ein : ((2 * ((10 * nI w) + N 4 w)) + nI v.toInt.toNat).toNatClampNeg = 2 * (10 * w + (N 4 w).toNatClampNeg) + v.toNatClampNeg := by
          rw [show nI v.toInt.toNat = v by rw [ti_eq, ti_nI (by omega)]; omega, ti_cl]
          omega
        obtain ⟨p1, p2⟩ := e_way (u := nI w) (v := N 15 (2 * (10 * w + (N 4 w).toNatClampNeg) + v.toNatClampNeg)) (by omega) (by omega) hsd.1 (by omega)
        refine ok_b (ok_s rfl : Ok _ (fun q => q = _)) (fun q hq => ?_)
        subst hq
        refine ok_b (ok_s rfl : Ok _ (fun q => q = _)) (fun q hq => ?_)
        subst hq
        refine ok_b (ok_e (e_send (by omega) (by omega)) rfl : Ok _ (fun q => q = _)) (fun q hq => ?_)
        subst hq
        have hsk : (nI w * 12 + N 15 (2 * (10 * w + (N 4 w).toNatClampNeg) + v.toNatClampNeg)).toNatClampNeg = sdk N (nI w) (N 4 w) v.toInt.toNat := by
          unfold sdk
          rw [ein, p1]
        refine ih _ _ ?_ ?_ (fun k j k9 k10 k11 => by rw [sdC_f k9 k10 k11]; exact y2 k j k9 k10 k11) (by omega) (by omega) (by omega)
        · unfold sdC
          split
          · exact hY.up (tc_f (by decide))
          · exact (hY.up (tc_f (by decide))).up (tc_f (by decide))
        · rw [show (v + 1).toInt.toNat = v.toInt.toNat + 1 by omega, sdl_s, ← hsk]
          exact Rr_send y1 (by rw [ti_cl]; omega)
  exact key 4000 M 0 hM (by rw [ti_n0]; exact h) (fun _ _ _ _ _ => rfl) (by rw [ti_n0]; omega) (by rw [ti_n0]; omega) (by rw [ti_n0]; omega)
/-- the copies of an acting work -/
theorem Rr_act1 (h : Rr n M N) (hM : CI n M) (hN : MT n N) (hw : w < 12) (m1 : ∀ k j, k ≠ 3 → M' k j = M k j) (m2 : ∀ j, M' 3 j = if j < 10 ∧ M 5 j = nI w then M 3 j * 3 + nI w + 10 * s else M 3 j) (hA : A1 (nI w) s n N N') : Rr n M' N' := by
  obtain ⟨a, b, c, d, e, f⟩ := h
  obtain ⟨-, n1, n2, n3⟩ := hA
  have nz : ∀ k j, k ≠ 17 → k ≠ 20 → k ≠ 21 → k ≠ 22 → k ≠ 0 → N' k j = N k j := fun k j x y z t q => n1 k j x y z t (Or.inl q)
  have n16 : ∀ j, N' 16 j = N 16 j := fun j => nz 16 j (by decide) (by decide) (by decide) (by decide) (by decide)
  refine ⟨fun x hx => ?_, RB_c b (fun w' z j hz => m1 _ _ (by omega)) (fun k j hk => nz _ _ (by omega) (by omega) (by omega) (by omega) (by omega)), ⟨fun x hx => ?_, fun x hx => ?_, ?_, ?_, fun j hj => ?_⟩, RD_c d (fun k j hk => m1 _ _ (by omega)) (fun k j hk => nz _ _ (by omega) (by omega) (by omega) (by omega) (by omega)), ⟨fun x hx => ?_, fun x y hx hy ho => ?_⟩, RF_c f (fun j => nz 3 j (by decide) (by decide) (by decide) (by decide) (by decide)) (fun j => nz 4 j (by decide) (by decide) (by decide) (by decide) (by decide)) (fun j => nz 5 j (by decide) (by decide) (by decide) (by decide) (by decide)) (fun j => nz 7 j (by decide) (by decide) (by decide) (by decide) (by decide)) (fun j => nz 10 j (by decide) (by decide) (by decide) (by decide) (by decide)) (fun j => nz 11 j (by decide) (by decide) (by decide) (by decide) (by decide)) (fun j => nz 12 j (by decide) (by decide) (by decide) (by decide) (by decide)) (fun j => nz 13 j (by decide) (by decide) (by decide) (by decide) (by decide)) (n1 0 13 (by decide) (by decide) (by decide) (by decide) (Or.inr (by decide)))⟩
  · have e1 : ∀ z, M' (16 + 7 * x) z = M (16 + 7 * x) z := fun z => m1 _ _ (by omega)
    simp only [e1]
    rw [nz 1 _ (by decide) (by decide) (by decide) (by decide) (by decide), nz 2 _ (by decide) (by decide) (by decide) (by decide) (by decide), nz 3 _ (by decide) (by decide) (by decide) (by decide) (by decide), nz 4 _ (by decide) (by decide) (by decide) (by decide) (by decide), nz 5 _ (by decide) (by decide) (by decide) (by decide) (by decide), nz 6 _ (by decide) (by decide) (by decide) (by decide) (by decide), nz 7 _ (by decide) (by decide) (by decide) (by decide) (by decide), nz 8 _ (by decide) (by decide) (by decide) (by decide) (by decide), nz 9 _ (by decide) (by decide) (by decide) (by decide) (by decide)]
    exact a x hx
  · rw [m1 5 _ (by decide), n16, m2, n2]
    refine ⟨?_, (c.1 x hx).2⟩
    by_cases ho : M 5 x = nI w
    · rw [if_pos ⟨hx, ho⟩, if_pos ⟨hx, (own_iff hN hw).mpr ((hold_iff c hM hN hx hw).mp ho)⟩, (c.1 x hx).1, Int32.mul_comm]
    · rw [if_neg (fun q => ho q.2), if_neg (fun q => ho ((hold_iff c hM hN hx hw).mpr ((own_iff hN hw).mp q.2)))]
      exact (c.1 x hx).1
  · rw [m1 10 _ (by decide), m1 11 _ (by decide), nz 18 _ (by decide) (by decide) (by decide) (by decide) (by decide), nz 19 _ (by decide) (by decide) (by decide) (by decide) (by decide)]; exact c.2.1 x hx
  · rw [m1 9 _ (by decide), n1 0 22 (by decide) (by decide) (by decide) (by decide) (Or.inr (by decide))]; exact c.2.2.1
  · rw [m1 14 _ (by decide), n1 0 27 (by decide) (by decide) (by decide) (by decide) (Or.inr (by decide))]; exact c.2.2.2.1
  · rw [m1 15 _ (by decide), nz 23 _ (by decide) (by decide) (by decide) (by decide) (by decide)]; exact c.2.2.2.2 j hj
  · rw [n3] at hx
    rw [n16]
    rcases List.mem_append.mp hx with hx | hx
    · exact e.1 x hx
    · obtain ⟨h1, z, hz, h2, h3⟩ := own_in 10 hx
      rw [h2, nI_cl (by omega), h1, ti_nI (by omega)]
      exact (own_iff hN hw).mp h3
  · rw [n16] at ho
    rw [m1 4 _ (by decide), n3, ru_app, e.2 x y hx hy ho]
    by_cases hyw : y = w
    · subst hyw
      refine ru_at ?_
      rw [ru_own (fun _ _ => trivial) 10 (by omega), if_pos ⟨hx, (own_iff hN hw).mpr ho⟩]
    · have hne : nI y ≠ nI w := fun q => hyw (by rw [ti_eq, ti_nI (by omega), ti_nI (by omega)] at q; omega)
      refine ru_at ?_
      rw [ru_ow2 hne, n2, if_neg (fun q => hyw (by have := (own_iff hN hw).mp q.2; omega))]
theorem fr_3 {x : Int32} {j : Nat} (h : FrP u n N N') : FrP u n (up2 N 3 j x) (up2 N' 3 j x) := by
  obtain ⟨a, b, c, d, e⟩ := h
  refine ⟨a.up (tm_f (by decide)), fun k i k16 k10 k20 k21 k22 kz => ?_, fun i => ?_, fun i => ?_, ?_⟩
  · rw [up2_e, up2_e, b k i k16 k10 k20 k21 k22 kz]
  · rw [up2_k (by decide), up2_k (by decide), c i]
  · rw [up2_k (by decide), up2_k (by decide), d i]
  · rw [cL_c (N := N') (up2_k (by decide)) (fun k j hk => up2_k (by omega)), cL_c (N := N) (N' := up2 N 3 j x) (up2_k (by decide)) (fun k j hk => up2_k (by omega)), e]
theorem RG_fr (h : RG N) (hN : MT n N) (hw : w < 12) (hF : FrP (nI w) n N N') : RG N' := by
  intro x c hx hc e
  obtain ⟨-, -, f2, f3, -⟩ := hF
  rw [f3, nI_cl (by omega)] at e
  rw [f2]
  by_cases q : x = w
  · rw [if_pos q, ti_n0] at e
    omega
  · rw [if_neg q] at e
    by_cases q2 : c < 10 ∧ N 16 c = nI w + 1
    · rw [if_pos q2, ti_n0]; omega
    · rw [if_neg q2]
      exact h x c hx hc e
theorem RG_un {to : Int32} (h : RG N) (hw : w < 12) (hV : UdP (nI w) to n N N') : RG N' := by
  obtain ⟨N1, N2, hN1, a1, a2, hF, rfl⟩ := hV
  have g1 : RG N1 := RG_c h (fun j => a1 _ _ (by decide)) (fun j => a1 _ _ (by decide))
  exact RG_c (RG_fr g1 hN1 hw hF) (fun j => up2_k (by decide)) (fun j => up2_k (by decide))
theorem ck_fr (hF : FrP u n N N') : N' 0 13 = N 0 13 := hF.2.1 0 13 (by decide) (by decide) (by decide) (by decide) (by decide) (Or.inr (by decide))
theorem ck_un {to : Int32} (hV : UdP u to n N N') : N' 0 13 = N 0 13 := by
  obtain ⟨N1, N2, hN1, a1, a2, hF, rfl⟩ := hV
  rw [up2_k (by decide), ck_fr hF, a1 _ _ (by decide)]
end AX
