section PX
variable {n : Nat} {M M' N N' : Mem} {w c k s j : Nat} {u v p1 p2 p3 p4 x a b : Int32} {B C : Int}
theorem Rr_z (h : Rr n M N) (hM : ∀ k j, k ≠ 0 → M' k j = M k j) (hN : ∀ k j, (k ≠ 0 ∨ (j ≠ 0 ∧ j ≠ 1)) → N' k j = N k j) : Rr n M' N' := by
  obtain ⟨a, b, c, d, e, f⟩ := h
  have ny : ∀ k j, k ≠ 0 → N' k j = N k j := fun k j z => hN k j (Or.inl z)
  refine ⟨fun u hu => ?_, RB_c b (fun w' z j hz => hM _ _ (by omega)) (fun k j hk => ny _ _ (by omega)), RC_c c (fun k j hk => hM _ _ (by omega)) (fun k j hk => ny _ _ (by omega)) (hN _ _ (by decide)) (hN _ _ (by decide)), RD_c d (fun k j hk => hM _ _ (by omega)) (fun k j hk => ny _ _ (by omega)), RE_c e (fun j => hM _ _ (by decide)) (fun j => ny _ _ (by decide)) (fun j => ny _ _ (by decide)) (cL_c (hN _ _ (by decide)) (fun k j hk => ny _ _ (by omega))), RF_c f (fun j => ny _ _ (by decide)) (fun j => ny _ _ (by decide)) (fun j => ny _ _ (by decide)) (fun j => ny _ _ (by decide)) (fun j => ny _ _ (by decide)) (fun j => ny _ _ (by decide)) (fun j => ny _ _ (by decide)) (fun j => ny _ _ (by decide)) (hN _ _ (by decide))⟩
  have e1 : ∀ z, M' (16 + 7 * u) z = M (16 + 7 * u) z := fun z => hM _ _ (by omega)
  simp only [e1]
  rw [ny 1 _ (by decide), ny 2 _ (by decide), ny 3 _ (by decide), ny 4 _ (by decide), ny 5 _ (by decide), ny 6 _ (by decide), ny 7 _ (by decide), ny 8 _ (by decide), ny 9 _ (by decide)]
  exact a u hu
theorem Rr_suc (h : Rr n M N) (hn : n < 12) (h3 : M (16 + 7 * n) 3 = N 1 n) (h4 : M (16 + 7 * n) 4 = N 2 n) : Rr (n + 1) M N := by
  obtain ⟨a, b, c, d, e, f⟩ := h
  have z10 : (N 10 n).toInt = 0 := by
    by_cases q : (N 10 n).toInt = 0
    · exact q
    · have := (f n hn q).1
      omega
  refine ⟨fun u hu => ⟨fun hq => ?_, (a u hu).2⟩, b, c, fun y hy => ⟨(d y hy).1, fun v => ?_⟩, e, fun u hu hq => ?_⟩
  · by_cases q : u = n
    · subst q; exact ⟨h3, h4⟩
    · exact (a u hu).1 (by omega)
  · rw [(d y hy).2 v]
    constructor
    · rintro ⟨w, h1, h2, h3⟩
      exact ⟨w, by omega, h2, h3⟩
    · rintro ⟨w, h1, h2, h3⟩
      by_cases q : w = n
      · subst q; omega
      · exact ⟨w, by omega, h2, h3⟩
  · obtain ⟨f1, f2⟩ := f u hu hq
    exact ⟨by omega, f2⟩
theorem Rs_work (hR : Rs n B C M N) : Ok2 (F_X5_work M p1 p2) (F_X6_work N p1 p2) (fun q q' => q.1 = q'.1 ∧ Rs (wk n p1 p2).1 B C q.2 q'.2) := by
  obtain ⟨qz, ez, mz⟩ := m_work (p1 := p1) (p2 := p2) hR.1
  obtain ⟨qy, ey, my⟩ := s_work (p1 := p1) (p2 := p2) hR.2.1
  have key : Ok2 (F_X5_work M p1 p2) (F_X6_work N p1 p2) (fun q q' => Rr (wk n p1 p2).1 q.2 q'.2 ∧ RG q'.2 ∧ q'.2 0 13 = N 0 13) := by
    have h0 := Rs_0 (x := 0) hR
    have h13 : up2 N 0 0 0 0 13 = N 0 13 := up2_j (by decide)
    clear ez ey
    unfold F_X5_work F_X6_work
    simp only [bm_d]
    generalize up2 N 0 0 0 = N0 at h0 h13 ⊢
    obtain ⟨rI, rM, rR, rG, rk0, rk1⟩ := id h0
    have h12 := rI.1.1
    rw [e6_in, bi_s, e6_in, bi_s, ti_n1, ti_n10, ti_m1]
    by_cases c1 : p1.toInt < 1
    · rw [if_pos (show p1 < 1 by rw [ti_lt, ti_n1]; exact c1), if_neg (show ¬ (1 ≤ p1.toInt ∧ p1.toInt ≤ 10) by omega), if_pos rfl, show (wk n p1 p2).1 = n by unfold wk; rw [if_pos (Or.inl c1)]]
      exact ok2_s ⟨rR, rG, h13⟩
    · rw [if_neg (show ¬ p1 < 1 by rw [ti_lt, ti_n1]; exact c1)]
      by_cases c2 : 10 < p1.toInt
      · rw [if_pos (show 10 < p1 by rw [ti_lt, ti_n10]; exact c2), if_neg (show ¬ (1 ≤ p1.toInt ∧ p1.toInt ≤ 10) by omega), if_pos rfl, show (wk n p1 p2).1 = n by unfold wk; rw [if_pos (Or.inr (Or.inl c2))]]
        exact ok2_s ⟨rR, rG, h13⟩
      · rw [if_neg (show ¬ 10 < p1 by rw [ti_lt, ti_n10]; exact c2), if_pos (show (1 ≤ p1.toInt ∧ p1.toInt ≤ 10) by omega), if_neg (show ¬ (1 : Int32) = 0 by decide), ti_dec (a := p1) (by omega)]
        by_cases c3 : p2.toInt < -1
        · rw [if_pos (show p2 < -1 by rw [ti_lt, ti_m1]; exact c3), if_neg (show ¬ (-1 ≤ p2.toInt ∧ p2.toInt ≤ p1.toInt - 1) by omega), if_pos rfl, show (wk n p1 p2).1 = n by unfold wk; rw [if_pos (Or.inr (Or.inr (Or.inl c3)))]]
          exact ok2_s ⟨rR, rG, h13⟩
        · rw [if_neg (show ¬ p2 < -1 by rw [ti_lt, ti_m1]; exact c3)]
          by_cases c4 : p2.toInt < p1.toInt
          · rw [if_pos (show p2 < p1 by rw [ti_lt]; exact c4), if_pos (show (-1 ≤ p2.toInt ∧ p2.toInt ≤ p1.toInt - 1) by omega), if_neg (show ¬ (1 : Int32) = 0 by decide)]
            have hk : ¬ (p1.toInt < 1 ∨ 10 < p1.toInt ∨ p2.toInt < -1 ∨ p1.toInt ≤ p2.toInt) := by omega
            by_cases c5 : n < 12
            · rw [if_pos (show M 0 1 < 12 by rw [ti_lt, rM.cnt, ti_n12]; omega), if_neg (show ¬ N0 0 1 = 12 by rw [ti_eq, rI.1.wk, ti_n12]; omega), show (wk n p1 p2).1 = n + 1 by unfold wk; rw [if_neg hk, if_pos c5]]
              have eM : (M 0 1).toNatClampNeg = n := cl_of rM.cnt
              have eN : (N0 0 1).toNatClampNeg = n := cl_of rI.1.wk
              have f1 : up2 N0 1 (N0 0 1).toNatClampNeg p1 0 1 = N0 0 1 := up2_k (by decide)
              rw [f1, eM, eN, show lm 1 = 12 from rfl, show lm 2 = 12 from rfl, ti_in (a := M 0 1) (n := 12) (by rw [rM.cnt]; omega) (by rw [rM.cnt]; omega), ti_in (a := N0 0 1) (n := 12) (by rw [rI.1.wk]; omega) (by rw [rI.1.wk]; omega), gd_t, gd_t, gd_t]
              have s1 := Rr_fld (w := n) (v := p1) rR (Or.inr (Or.inr (Or.inr (Or.inr (Or.inr (Or.inr (Or.inr (Or.inl ⟨rfl, rfl⟩)))))))) (RF_o rR.2.2.2.2.2 (by decide))
              have s2 := Rr_fld (w := n) (v := p2) s1 (Or.inr (Or.inr (Or.inr (Or.inr (Or.inr (Or.inr (Or.inr (Or.inr ⟨rfl, rfl⟩)))))))) (RF_o s1.2.2.2.2.2 (by decide))
              have s3 := Rr_suc s2 c5 (by rw [up2_j (by decide), up2_s, up2_k (by decide), up2_s]) (by rw [up2_s, up2_s])
              refine ok2_s ⟨Rr_z s3 (fun k j hk => up2_k hk) (fun k j hk => ?_), RG_c (N' := up2 (up2 (up2 N0 1 n p1) 2 n p2) 0 1 (up2 (up2 N0 1 n p1) 2 n p2 0 1 + 1)) rG (fun j => ?_) (fun j => ?_), ?_⟩
              · dsimp only
                rw [up2_e, if_neg (by omega)]
              · rw [up2_k (by decide), up2_k (by decide), up2_k (by decide)]
              · rw [up2_k (by decide), up2_k (by decide), up2_k (by decide)]
              · dsimp only
                rw [up2_j (by decide), up2_k (by decide), up2_k (by decide), h13]
            · rw [if_neg (show ¬ M 0 1 < 12 by rw [ti_lt, rM.cnt, ti_n12]; omega), if_pos (show N0 0 1 = 12 by rw [ti_eq, rI.1.wk, ti_n12]; omega), show (wk n p1 p2).1 = n by unfold wk; rw [if_neg hk, if_neg c5]]
              exact ok2_s ⟨rR, rG, h13⟩
          · rw [if_neg (show ¬ p2 < p1 by rw [ti_lt]; exact c4), if_neg (show ¬ (-1 ≤ p2.toInt ∧ p2.toInt ≤ p1.toInt - 1) by omega), if_pos rfl, show (wk n p1 p2).1 = n by unfold wk; rw [if_pos (Or.inr (Or.inr (Or.inr (by omega))))]]
            exact ok2_s ⟨rR, rG, h13⟩
  obtain ⟨q, q', e, e', k2, k3, k4⟩ := key
  rw [ey] at e
  rw [ez] at e'
  cases Option.some.inj e
  cases Option.some.inj e'
  exact ⟨_, _, ey, ez, ti_eq.mpr (my.2.trans mz.2.symm), mz.1, my.1, k2, k3, by rw [k4]; exact hR.2.2.2.2.1, by rw [k4]; exact hR.2.2.2.2.2⟩
theorem Rr_want (h : Rr n M N) (hN : MT n N) (hw : w < 12) (hs : s < 10) (hj : j < 4) (h7 : (N 7 w).toInt = 0) (hsp : ∀ u, u < 12 → (N 10 u).toInt ≠ 0 → spn N u < 10) (hab : we a b) : Rr n (up2 (up2 M (16 + 7 * w + 1 + 2) (s * 4 + j) a) (16 + 7 * w + 1 + 1) s x) (up2 (up2 N 13 (4 * (10 * w + s) + j) b) 12 (10 * w + s) x) := by
  obtain ⟨A, Bb, Cc, D, E, F⟩ := h
  have mz : ∀ k j', (∀ u : Nat, k ≠ 16 + 7 * u + 2 ∧ k ≠ 16 + 7 * u + 3) → up2 (up2 M (16 + 7 * w + 1 + 2) (s * 4 + j) a) (16 + 7 * w + 1 + 1) s x k j' = M k j' := fun k j' hk => by
    have := hk w
    rw [up2_k (by omega), up2_k (by omega)]
  have nz : ∀ k j', k ≠ 12 → k ≠ 13 → up2 (up2 N 13 (4 * (10 * w + s) + j) b) 12 (10 * w + s) x k j' = N k j' := fun k j' h1 h2 => by rw [up2_k h1, up2_k h2]
  refine ⟨fun u hu => ?_, fun u t hu ht => ?_, RC_c Cc (fun k j' hk => mz _ _ (fun u => by omega)) (fun k j' hk => nz _ _ (by omega) (by omega)) (nz _ _ (by decide) (by decide)) (nz _ _ (by decide) (by decide)), RD_c D (fun k j' hk => mz _ _ (fun u => by omega)) (fun k j' hk => nz _ _ (by omega) (by omega)), RE_c E (fun j' => mz _ _ (fun u => by omega)) (fun j' => nz _ _ (by decide) (by decide)) (fun j' => nz _ _ (by decide) (by decide)) (cL_c (nz _ _ (by decide) (by decide)) (fun k j' hk => nz _ _ (by omega) (by omega))), fun u hu hq => ?_⟩
  · have e1 : ∀ z, up2 (up2 M (16 + 7 * w + 1 + 2) (s * 4 + j) a) (16 + 7 * w + 1 + 1) s x (16 + 7 * u) z = M (16 + 7 * u) z := fun z => mz _ _ (fun y => by omega)
    simp only [e1]
    rw [nz 1 _ (by decide) (by decide), nz 2 _ (by decide) (by decide), nz 3 _ (by decide) (by decide), nz 4 _ (by decide) (by decide), nz 5 _ (by decide) (by decide), nz 6 _ (by decide) (by decide), nz 7 _ (by decide) (by decide), nz 8 _ (by decide) (by decide), nz 9 _ (by decide) (by decide)]
    exact A u hu
  · obtain ⟨b1, b2, b3, b4⟩ := Bb u t hu ht
    refine ⟨?_, ?_, fun j' hj' => ?_, fun j' hj' => ?_⟩
    · by_cases q : u = w ∧ t = s
      · rw [q.1, q.2, up2_s]
        exact up2_s.symm
      · rw [up2_e, if_neg (by omega), up2_k (by omega), up2_e, if_neg (by omega), up2_k (by decide)]
        exact b1
    · rw [mz _ _ (fun y => by omega), nz _ _ (by decide) (by decide)]; exact b2
    · by_cases q : (u = w ∧ t = s) ∧ j' = j
      · rw [q.1.1, q.1.2, q.2, up2_k (show 16 + 7 * w + 3 ≠ 16 + 7 * w + 1 + 1 by omega), up2_k (show (13 : Nat) ≠ 12 by decide), up2_s]
        rw [up2_s]
        exact hab
      · rw [up2_k (show 16 + 7 * u + 3 ≠ 16 + 7 * w + 1 + 1 by omega), up2_e, if_neg (by omega), up2_k (show (13 : Nat) ≠ 12 by decide), up2_e, if_neg (by omega)]
        exact b3 j' hj'
    · rw [mz _ _ (fun y => by omega), nz _ _ (by decide) (by decide)]; exact b4 j' hj'
  · rw [nz 10 _ (by decide) (by decide)] at hq
    obtain ⟨f1, f2, f3, f4, f5⟩ := F u hu hq
    have huw : u ≠ w := fun q => by subst q; exact f3 h7
    have hs2 := hsp u hu hq
    have hwc := hN.wc (j := 10 * u + spn N u)
    have hg := hN.gt (j := u)
    have hg4 : gtn N u < 4 := by unfold gtn; omega
    unfold spn gtn
    rw [nz 3 _ (by decide) (by decide), nz 4 _ (by decide) (by decide), nz 5 _ (by decide) (by decide), nz 7 _ (by decide) (by decide), nz 10 _ (by decide) (by decide), nz 11 _ (by decide) (by decide), nz 0 _ (by decide) (by decide)]
    refine ⟨f1, f2, f3, ?_⟩
    show (N 5 u).toInt < (up2 (up2 N 13 (4 * (10 * w + s) + j) b) 12 (10 * w + s) x 12 (10 * u + spn N u)).toInt ∧ (up2 (up2 N 13 (4 * (10 * w + s) + j) b) 12 (10 * w + s) x 13 (4 * (10 * u + spn N u) + gtn N u)).toInt + 1 = _ ∧ _
    rw [up2_j (by omega), up2_k (show (12 : Nat) ≠ 13 by decide), up2_k (show (13 : Nat) ≠ 12 by decide), up2_j (by omega)]
    exact ⟨f4, f5⟩
theorem Rr_sd (h : Rr n M N) (hw : w < 12) (hs : s < 10) (hj : j < 2) : Rr n (up2 (up2 M (16 + 7 * w + 4 + 2) (s * 2 + j) a) (16 + 7 * w + 4 + 1) s x) (up2 (up2 N 15 (2 * (10 * w + s) + j) a) 14 (10 * w + s) x) := by
  obtain ⟨A, Bb, Cc, D, E, F⟩ := h
  have mz : ∀ k j', (∀ u : Nat, k ≠ 16 + 7 * u + 5 ∧ k ≠ 16 + 7 * u + 6) → up2 (up2 M (16 + 7 * w + 4 + 2) (s * 2 + j) a) (16 + 7 * w + 4 + 1) s x k j' = M k j' := fun k j' hk => by
    have := hk w
    rw [up2_k (by omega), up2_k (by omega)]
  have nz : ∀ k j', k ≠ 14 → k ≠ 15 → up2 (up2 N 15 (2 * (10 * w + s) + j) a) 14 (10 * w + s) x k j' = N k j' := fun k j' h1 h2 => by rw [up2_k h1, up2_k h2]
  refine ⟨fun u hu => ?_, fun u t hu ht => ?_, RC_c Cc (fun k j' hk => mz _ _ (fun u => by omega)) (fun k j' hk => nz _ _ (by omega) (by omega)) (nz _ _ (by decide) (by decide)) (nz _ _ (by decide) (by decide)), RD_c D (fun k j' hk => mz _ _ (fun u => by omega)) (fun k j' hk => nz _ _ (by omega) (by omega)), RE_c E (fun j' => mz _ _ (fun u => by omega)) (fun j' => nz _ _ (by decide) (by decide)) (fun j' => nz _ _ (by decide) (by decide)) (cL_c (nz _ _ (by decide) (by decide)) (fun k j' hk => nz _ _ (by omega) (by omega))), RF_c F (fun j => nz _ _ (by decide) (by decide)) (fun j => nz _ _ (by decide) (by decide)) (fun j => nz _ _ (by decide) (by decide)) (fun j => nz _ _ (by decide) (by decide)) (fun j => nz _ _ (by decide) (by decide)) (fun j => nz _ _ (by decide) (by decide)) (fun j => nz _ _ (by decide) (by decide)) (fun j => nz _ _ (by decide) (by decide)) (nz _ _ (by decide) (by decide))⟩
  · have e1 : ∀ z, up2 (up2 M (16 + 7 * w + 4 + 2) (s * 2 + j) a) (16 + 7 * w + 4 + 1) s x (16 + 7 * u) z = M (16 + 7 * u) z := fun z => mz _ _ (fun y => by omega)
    simp only [e1]
    rw [nz 1 _ (by decide) (by decide), nz 2 _ (by decide) (by decide), nz 3 _ (by decide) (by decide), nz 4 _ (by decide) (by decide), nz 5 _ (by decide) (by decide), nz 6 _ (by decide) (by decide), nz 7 _ (by decide) (by decide), nz 8 _ (by decide) (by decide), nz 9 _ (by decide) (by decide)]
    exact A u hu
  · obtain ⟨b1, b2, b3, b4⟩ := Bb u t hu ht
    refine ⟨?_, ?_, fun j' hj' => ?_, fun j' hj' => ?_⟩
    · rw [mz _ _ (fun y => by omega), nz _ _ (by decide) (by decide)]; exact b1
    · by_cases q : u = w ∧ t = s
      · rw [q.1, q.2, up2_s]
        exact up2_s.symm
      · rw [up2_e, if_neg (by omega), up2_k (by omega), up2_e, if_neg (by omega), up2_k (by decide)]
        exact b2
    · rw [mz _ _ (fun y => by omega), nz _ _ (by decide) (by decide)]; exact b3 j' hj'
    · by_cases q : (u = w ∧ t = s) ∧ j' = j
      · rw [q.1.1, q.1.2, q.2, up2_k (show 16 + 7 * w + 6 ≠ 16 + 7 * w + 4 + 1 by omega), up2_k (show (15 : Nat) ≠ 14 by decide), up2_s]
        exact up2_s.symm
      · rw [up2_k (show 16 + 7 * u + 6 ≠ 16 + 7 * w + 4 + 1 by omega), up2_e, if_neg (by omega), up2_k (show (15 : Nat) ≠ 14 by decide), up2_e, if_neg (by omega)]
        exact b4 j' hj'
theorem e_isStep {r : Nat} : F_X4_isStep M r p2 = some (if 0 ≤ p2.toInt ∧ p2.toInt < (M r 3).toInt then 1 else 0) := by
  unfold F_X4_isStep
  by_cases a : p2.toInt < 0
  · rw [if_pos (by rw [ti_lt, ti_n0]; exact a), if_neg (by omega)]
  · rw [if_neg (by rw [ti_lt, ti_n0]; exact a)]
    by_cases b : (M r 3).toInt ≤ p2.toInt
    · rw [if_pos (by rw [ti_le]; exact b), if_neg (by omega)]
    · rw [if_neg (by rw [ti_le]; exact b), if_pos (by omega)]
theorem e6_isStep (hN : MT n N) : F_X6_isStep N p1 p2 = some (if (0 ≤ p1.toInt ∧ p1.toInt < n) ∧ 0 ≤ p2.toInt ∧ p2.toInt < (N 1 p1.toNatClampNeg).toInt then 1 else 0) := by
  obtain ⟨q, e, h⟩ := m_isStep (p1 := p1) (p2 := p2) hN
  rw [e]
  rcases h with ⟨rfl, h⟩ | ⟨rfl, h⟩
  · rw [if_pos h]
  · rw [if_neg h]
theorem e_isOther (hM : CI n M) : F_X5_isOther M p1 p2 = some (if (0 ≤ p2.toInt ∧ p2.toInt < n) ∧ p2 ≠ p1 then 1 else 0) := by
  unfold F_X5_isOther
  rw [e_isWork hM, bi_s]
  by_cases a : 0 ≤ p2.toInt ∧ p2.toInt < n
  · rw [if_pos a, if_neg (show ¬ (1 : Int32) = 0 by decide)]
    by_cases b : p2 = p1
    · rw [if_pos b, if_neg (fun z => z.2 b)]
    · rw [if_neg b, if_pos ⟨a, b⟩]
  · rw [if_neg a, if_pos rfl, if_neg (fun z => a z.1)]
/-- one more want, or too many -/
theorem wadd (hR : Rs n B C M N) (hw : w < n) (e1 : p1 = nI w) (hs : s < 10) (e2 : p2.toInt = s) (h7 : N 7 w = 0) (hab : we a b) : Ok2 (bi (F_X2_add M (16 + 7 * w + 1) p2 a) fun q_13 => some (q_13.1, q_13.2)) (gd (inb ((10 * p1) + p2) (lm 12)) <| (if (N 12 ((10 * p1) + p2).toNatClampNeg) = 4 then some ((-4), N) else gd (inb ((10 * p1) + p2) (lm 12)) <| gd (inb ((4 * ((10 * p1) + p2)) + (N 12 ((10 * p1) + p2).toNatClampNeg)) (lm 13)) <| bm (up2 N 13 (((4 * ((10 * p1) + p2)) + (N 12 ((10 * p1) + p2).toNatClampNeg)).toNatClampNeg) b) fun M_16 => gd (inb ((10 * p1) + p2) (lm 12)) <| gd (inb ((10 * p1) + p2) (lm 12)) <| bm (up2 M_16 12 (((10 * p1) + p2).toNatClampNeg) ((M_16 12 ((10 * p1) + p2).toNatClampNeg) + 1)) fun M_19 => gd (inb ((10 * p1) + p2) (lm 12)) <| some ((M_19 12 ((10 * p1) + p2).toNatClampNeg), M_19))) (fun q q' => q.1 = q'.1 ∧ Rr n q.2 q'.2 ∧ RG q'.2 ∧ q'.2 0 13 = N 0 13) := by
  obtain ⟨rI, rM, rR, rG, rk0, rk1⟩ := id hR
  have h12 := rI.1.1
  have ew : (nI w).toInt = w := ti_nI (by omega)
  subst e1
  have ek := m_k10 (p1 := nI w) (c2 := p2) (by omega) (by omega) (by omega) (by omega)
  have ekn : ((10 * nI w) + p2).toNatClampNeg = 10 * w + s := by rw [ti_cl]; omega
  have gk : inb ((10 * nI w) + p2) 120 = true := ti_in (by omega) (by omega)
  have hwc := rI.1.wc (j := 10 * w + s)
  have rb := (rR.2.1 w s (by omega) hs).1
  have hsp : ∀ u, u < 12 → (N 10 u).toInt ≠ 0 → spn N u < 10 := by
    intro u hu hq
    obtain ⟨f1, f2, -⟩ := rR.2.2.2.2.2 u hu hq
    have := rI.2.1.1 u f1 f2
    have := (rI.1.st (j := u)).1
    have := rI.1.sp (j := u)
    unfold spn; omega
  have rb' : M (16 + 7 * w + 1 + 1) s = N 12 (10 * w + s) := rb
  rw [e_add (rw_w1 (wok.of (by omega))) rM (by omega) (by omega), show p2.toNatClampNeg = s from cl_of e2, bi_s, rb', show lm 12 = 120 from rfl, gk, ekn]
  simp only [gd_t]
  by_cases q : (N 12 (10 * w + s)).toInt < 4
  · have e4 : (4 * ((10 * nI w) + p2)).toInt = 4 * (10 * w + s) := by rw [ti_mul (by rw [ti_n4]; omega) (by rw [ti_n4]; omega), ti_n4, ek]; omega
    have ei : ((4 * ((10 * nI w) + p2)) + (N 12 (10 * w + s))).toInt = 4 * (10 * w + s) + (N 12 (10 * w + s)).toInt := by rw [ti_add (by omega) (by omega), e4]
    have ein : ((4 * ((10 * nI w) + p2)) + (N 12 (10 * w + s))).toNatClampNeg = 4 * (10 * w + s) + (N 12 (10 * w + s)).toNatClampNeg := by rw [ti_cl, ti_cl]; omega
    rw [if_pos (show (N 12 (10 * w + s)).toInt < ((4 : Nat) : Int) from q), if_neg (show ¬ N 12 (10 * w + s) = 4 by rw [ti_eq, ti_n4]; omega), ti_in (by omega) (by rw [show lm 13 = 480 from rfl]; omega), gd_t, bm_d, bm_d, ein, up2_s, up2_k (show (12 : Nat) ≠ 13 by decide)]
    refine ok2_s ⟨rfl, Rr_want rR rI.1 (by omega) hs (by rw [ti_cl]; omega) (by rw [h7, ti_n0]) hsp hab, RG_c (N' := up2 (up2 N 13 (4 * (10 * w + s) + (N 12 (10 * w + s)).toNatClampNeg) b) 12 (10 * w + s) (N 12 (10 * w + s) + 1)) rG (fun j => ?_) (fun j => ?_), ?_⟩
    · rw [up2_k (by decide), up2_k (by decide)]
    · rw [up2_k (by decide), up2_k (by decide)]
    · dsimp only
      rw [up2_k (by decide), up2_k (by decide)]
  · rw [if_neg (show ¬ (N 12 (10 * w + s)).toInt < ((4 : Nat) : Int) from q), if_pos (show N 12 (10 * w + s) = 4 by rw [ti_eq, ti_n4]; omega)]
    exact ok2_s ⟨rfl, rR, rG, rfl⟩
theorem Rs_wants (hR : Rs n B C M N) : Ok2 (F_X5_wants M p1 p2 p3 p4) (F_X6_wants N p1 p2 p3 p4) (fun q q' => q.1 = q'.1 ∧ Rs n B C q.2 q'.2) := by
  obtain ⟨qz, ez, mz⟩ := m_wants (p1 := p1) (p2 := p2) (p3 := p3) (p4 := p4) hR.1
  obtain ⟨qy, ey, my⟩ := s_wants (p1 := p1) (p2 := p2) (p3 := p3) (p4 := p4) hR.2.1
  have key : Ok2 (F_X5_wants M p1 p2 p3 p4) (F_X6_wants N p1 p2 p3 p4) (fun q q' => q.1 = q'.1 ∧ Rr n q.2 q'.2 ∧ RG q'.2 ∧ q'.2 0 13 = N 0 13) := by
    have h0 := Rs_0 (x := 0) hR
    have h13 : up2 N 0 0 0 0 13 = N 0 13 := up2_j (by decide)
    clear ez ey
    unfold F_X5_wants F_X6_wants
    rw [bm_d]
    generalize up2 N 0 0 0 = N0 at h0 h13 ⊢
    rw [← h13]
    obtain ⟨rI, rM, rR, rG, rk0, rk1⟩ := id h0
    have h12 := rI.1.1
    rw [e_find rM, bi_s, e6_isStep rI.1, bi_s]
    have no : ∀ r : Int32, Ok2 (some (r, M)) (some (r, N0)) (fun q q' => q.1 = q'.1 ∧ Rr n q.2 q'.2 ∧ RG q'.2 ∧ q'.2 0 13 = N0 0 13) := fun r => ok2_s ⟨rfl, rR, rG, rfl⟩
    by_cases a : 0 ≤ p1.toInt ∧ p1.toInt < n
    · rw [if_pos a]
      obtain ⟨w, hw, e1, e2, e3⟩ := wx a
      rw [e2]
      show Ok2 (bi (F_X4_isStep M (16 + 7 * w) p2) _) _ _
      obtain ⟨a3, -⟩ := (rR.1 w (by omega)).1 hw
      have a10 : M (16 + 7 * w) 10 = N0 7 w := (rR.1 w (by omega)).2.2.2.2.2.2.1
      have hst := (rI.1.st (j := w)).1
      rw [e_isStep, bi_s, a3, a10]
      by_cases b : 0 ≤ p2.toInt ∧ p2.toInt < (N0 1 w).toInt
      · rw [if_pos b, if_neg (show ¬ (1 : Int32) = 0 by decide), if_pos (show (0 ≤ p1.toInt ∧ p1.toInt < (n : Int)) ∧ 0 ≤ p2.toInt ∧ p2.toInt < (N0 1 w).toInt from ⟨a, b⟩), if_neg (show ¬ (1 : Int32) = 0 by decide)]
        obtain ⟨s, hs⟩ : ∃ s : Nat, p2.toInt = s := ⟨p2.toInt.toNat, by omega⟩
        have g : inb p1 12 = true := ti_in a.1 (by omega)
        by_cases c3 : p3 = 0
        · simp only [if_pos c3]
          rw [e_isCopy, bi_s, e6_in, bi_s, ti_n0, ti_n9, show lm 7 = 12 from rfl, g, gd_t]
          by_cases d : 0 ≤ p4.toInt ∧ p4.toInt < 10
          · rw [if_pos d, if_neg (show ¬ (1 : Int32) = 0 by decide), if_pos (show 0 ≤ p4.toInt ∧ p4.toInt ≤ 9 by omega), if_neg (show ¬ (1 : Int32) = 0 by decide)]
            by_cases e : N0 7 w = 0
            · rw [if_pos e, if_pos e]
              exact wadd h0 hw e1 (by omega) hs e ⟨fun _ => rfl, fun z => by omega⟩
            · rw [if_neg e, if_neg e]
              exact no _
          · rw [if_neg d, if_pos rfl, if_neg (show ¬ (0 ≤ p4.toInt ∧ p4.toInt ≤ 9) by omega), if_pos rfl]
            exact no _
        · simp only [if_neg c3]
          rw [e_isOther rM, bi_s, e6_isWork rI.1, bi_s, show lm 7 = 12 from rfl, g, gd_t]
          by_cases d : 0 ≤ p4.toInt ∧ p4.toInt < n
          · rw [if_pos d, if_neg (show ¬ (1 : Int32) = 0 by decide)]
            by_cases d2 : p4 = p1
            · rw [if_neg (show ¬ ((0 ≤ p4.toInt ∧ p4.toInt < (n : Int)) ∧ p4 ≠ p1) from fun z => z.2 d2), if_pos rfl, if_pos d2]
              exact no _
            · rw [if_pos (show (0 ≤ p4.toInt ∧ p4.toInt < (n : Int)) ∧ p4 ≠ p1 from ⟨d, d2⟩), if_neg (show ¬ (1 : Int32) = 0 by decide), if_neg d2]
              by_cases e : N0 7 w = 0
              · rw [if_pos e, if_pos e]
                have e10 : (10 + p4).toInt = 10 + p4.toInt := by rw [ti_add (by rw [ti_n10]; omega) (by rw [ti_n10]; omega), ti_n10]
                have e100 : (100 + p4).toInt = 100 + p4.toInt := by rw [ti_add (by rw [ti_n100]; omega) (by rw [ti_n100]; omega), ti_n100]
                exact wadd h0 hw e1 (by omega) hs e ⟨fun z => by omega, fun z => by omega⟩
              · rw [if_neg e, if_neg e]
                exact no _
          · rw [if_neg (show ¬ ((0 ≤ p4.toInt ∧ p4.toInt < (n : Int)) ∧ p4 ≠ p1) from fun z => d z.1), if_pos rfl, if_neg d, if_pos rfl]
            exact no _
      · rw [if_neg b, if_pos rfl, if_neg (show ¬ ((0 ≤ p1.toInt ∧ p1.toInt < (n : Int)) ∧ 0 ≤ p2.toInt ∧ p2.toInt < (N0 1 w).toInt) from fun z => b z.2), if_pos rfl]
        exact no _
    · rw [if_neg a, if_neg (show ¬ ((0 ≤ p1.toInt ∧ p1.toInt < (n : Int)) ∧ 0 ≤ p2.toInt ∧ p2.toInt < (N0 1 p1.toNatClampNeg).toInt) from fun z => a z.1), if_pos rfl]
      exact no _
  obtain ⟨q, q', e, e', k1, k2, k3, k4⟩ := key
  rw [ey] at e
  rw [ez] at e'
  cases Option.some.inj e
  cases Option.some.inj e'
  exact ⟨_, _, ey, ez, k1, mz, my, k2, k3, by rw [k4]; exact hR.2.2.2.2.1, by rw [k4]; exact hR.2.2.2.2.2⟩
theorem Rs_sends (hR : Rs n B C M N) : Ok2 (F_X5_sends M p1 p2 p3) (F_X6_sends N p1 p2 p3) (fun q q' => q.1 = q'.1 ∧ Rs n B C q.2 q'.2) := by
  obtain ⟨qz, ez, mz⟩ := m_sends (p1 := p1) (p2 := p2) (p3 := p3) hR.1
  obtain ⟨qy, ey, my⟩ := s_sends (p1 := p1) (p2 := p2) (p3 := p3) hR.2.1
  have key : Ok2 (F_X5_sends M p1 p2 p3) (F_X6_sends N p1 p2 p3) (fun q q' => q.1 = q'.1 ∧ Rr n q.2 q'.2 ∧ RG q'.2 ∧ q'.2 0 13 = N 0 13) := by
    have h0 := Rs_0 (x := 0) hR
    have h13 : up2 N 0 0 0 0 13 = N 0 13 := up2_j (by decide)
    clear ez ey
    unfold F_X5_sends F_X6_sends
    rw [bm_d]
    generalize up2 N 0 0 0 = N0 at h0 h13 ⊢
    rw [← h13]
    obtain ⟨rI, rM, rR, rG, rk0, rk1⟩ := id h0
    have h12 := rI.1.1
    rw [e_find rM, bi_s, e6_isStep rI.1, bi_s]
    have no : ∀ r : Int32, Ok2 (some (r, M)) (some (r, N0)) (fun q q' => q.1 = q'.1 ∧ Rr n q.2 q'.2 ∧ RG q'.2 ∧ q'.2 0 13 = N0 0 13) := fun r => ok2_s ⟨rfl, rR, rG, rfl⟩
    by_cases a : 0 ≤ p1.toInt ∧ p1.toInt < n
    · rw [if_pos a]
      obtain ⟨w, hw, e1, e2, e3⟩ := wx a
      rw [e2]
      show Ok2 (bi (F_X4_isStep M (16 + 7 * w) p2) _) _ _
      obtain ⟨a3, -⟩ := (rR.1 w (by omega)).1 hw
      have a10 : M (16 + 7 * w) 10 = N0 7 w := (rR.1 w (by omega)).2.2.2.2.2.2.1
      have hst := (rI.1.st (j := w)).1
      rw [e_isStep, bi_s, a3, a10]
      by_cases b : 0 ≤ p2.toInt ∧ p2.toInt < (N0 1 w).toInt
      · rw [if_pos b, if_neg (show ¬ (1 : Int32) = 0 by decide), if_pos (show (0 ≤ p1.toInt ∧ p1.toInt < (n : Int)) ∧ 0 ≤ p2.toInt ∧ p2.toInt < (N0 1 w).toInt from ⟨a, b⟩), if_neg (show ¬ (1 : Int32) = 0 by decide)]
        obtain ⟨s, hs⟩ : ∃ s : Nat, p2.toInt = s := ⟨p2.toInt.toNat, by omega⟩
        have g : inb p1 12 = true := ti_in a.1 (by omega)
        rw [e_isOther rM, bi_s, e6_isWork rI.1, bi_s, show lm 7 = 12 from rfl, g, gd_t]
        by_cases d : 0 ≤ p3.toInt ∧ p3.toInt < n
        · rw [if_pos d, if_neg (show ¬ (1 : Int32) = 0 by decide)]
          by_cases d2 : p3 = p1
          · rw [if_neg (show ¬ ((0 ≤ p3.toInt ∧ p3.toInt < (n : Int)) ∧ p3 ≠ p1) from fun z => z.2 d2), if_pos rfl, if_pos d2]
            exact no _
          · rw [if_pos (show (0 ≤ p3.toInt ∧ p3.toInt < (n : Int)) ∧ p3 ≠ p1 from ⟨d, d2⟩), if_neg (show ¬ (1 : Int32) = 0 by decide), if_neg d2]
            by_cases e : N0 7 w = 0
            · rw [if_pos e, if_pos e]
              have ew : (nI w).toInt = w := ti_nI (by omega)
              subst e1
              have hs10 : s < 10 := by omega
              have ek := m_k10 (p1 := nI w) (c2 := p2) (by omega) (by omega) (by omega) (by omega)
              have ekn : ((10 * nI w) + p2).toNatClampNeg = 10 * w + s := by rw [ti_cl]; omega
              have gk : inb ((10 * nI w) + p2) 120 = true := ti_in (by omega) (by omega)
              have hsc := rI.1.sc (j := 10 * w + s)
              have rb' : M (16 + 7 * w + 4 + 1) s = N0 14 (10 * w + s) := (rR.2.1 w s (by omega) hs10).2.1
              rw [e_add (rw_w4 (wok.of (by omega))) rM (by omega) (by omega), show p2.toNatClampNeg = s from cl_of hs, bi_s, rb', show lm 14 = 120 from rfl, gk, ekn]
              simp only [gd_t]
              by_cases q : (N0 14 (10 * w + s)).toInt < 2
              · have e4 : (2 * ((10 * nI w) + p2)).toInt = 2 * (10 * w + s) := by rw [ti_mul (by rw [ti_n2]; omega) (by rw [ti_n2]; omega), ti_n2, ek]; omega
                have ei : ((2 * ((10 * nI w) + p2)) + (N0 14 (10 * w + s))).toInt = 2 * (10 * w + s) + (N0 14 (10 * w + s)).toInt := by rw [ti_add (by omega) (by omega), e4]
                have ein : ((2 * ((10 * nI w) + p2)) + (N0 14 (10 * w + s))).toNatClampNeg = 2 * (10 * w + s) + (N0 14 (10 * w + s)).toNatClampNeg := by rw [ti_cl, ti_cl]; omega
                rw [if_pos (show (N0 14 (10 * w + s)).toInt < ((2 : Nat) : Int) from q), if_neg (show ¬ N0 14 (10 * w + s) = 2 by rw [ti_eq, ti_n2]; omega), ti_in (by omega) (by rw [show lm 15 = 240 from rfl]; omega), gd_t, bm_d, bm_d, ein, up2_s, up2_k (show (14 : Nat) ≠ 15 by decide)]
                refine ok2_s ⟨rfl, Rr_sd rR (by omega) hs10 (by rw [ti_cl]; omega), RG_c (N' := up2 (up2 N0 15 (2 * (10 * w + s) + (N0 14 (10 * w + s)).toNatClampNeg) p3) 14 (10 * w + s) (N0 14 (10 * w + s) + 1)) rG (fun j => ?_) (fun j => ?_), ?_⟩
                · rw [up2_k (by decide), up2_k (by decide)]
                · rw [up2_k (by decide), up2_k (by decide)]
                · dsimp only
                  rw [up2_k (by decide), up2_k (by decide)]
              · rw [if_neg (show ¬ (N0 14 (10 * w + s)).toInt < ((2 : Nat) : Int) from q), if_pos (show N0 14 (10 * w + s) = 2 by rw [ti_eq, ti_n2]; omega)]
                exact no _
            · rw [if_neg e, if_neg e]
              exact no _
        · rw [if_neg (show ¬ ((0 ≤ p3.toInt ∧ p3.toInt < (n : Int)) ∧ p3 ≠ p1) from fun z => d z.1), if_pos rfl, if_neg d, if_pos rfl]
          exact no _
      · rw [if_neg b, if_pos rfl, if_neg (show ¬ ((0 ≤ p1.toInt ∧ p1.toInt < (n : Int)) ∧ 0 ≤ p2.toInt ∧ p2.toInt < (N0 1 w).toInt) from fun z => b z.2), if_pos rfl]
        exact no _
    · rw [if_neg a, if_neg (show ¬ ((0 ≤ p1.toInt ∧ p1.toInt < (n : Int)) ∧ 0 ≤ p2.toInt ∧ p2.toInt < (N0 1 p1.toNatClampNeg).toInt) from fun z => a z.1), if_pos rfl]
      exact no _
  obtain ⟨q, q', e, e', k1, k2, k3, k4⟩ := key
  rw [ey] at e
  rw [ez] at e'
  cases Option.some.inj e
  cases Option.some.inj e'
  exact ⟨_, _, ey, ez, k1, mz, my, k2, k3, by rw [k4]; exact hR.2.2.2.2.1, by rw [k4]; exact hR.2.2.2.2.2⟩
end PX
