section UX
variable {n : Nat} {M M' N N' : Mem} {w c k : Nat} {u v p1 p2 x : Int32} {B : Int}
theorem e_ptake (h0 : 0 ≤ v.toInt) (h1 : v.toInt < 144) : F_X1_take M v = some (if 0 < (M 10 v.toNatClampNeg).toInt then (1, up2 M 10 v.toNatClampNeg (M 10 v.toNatClampNeg - 1)) else (0, M)) := by
  unfold F_X1_take
  have g : inb v 144 = true := ti_in h0 (by omega)
  rw [e_isWay h0 h1, bi_s, if_neg (by decide), show ln 10 = 144 from rfl, g, gd_t, gd_t, gd_t]
  by_cases q : 0 < (M 10 v.toNatClampNeg).toInt
  · rw [if_pos (by rw [ti_lt, ti_n0]; exact q), if_pos q]; rfl
  · rw [if_neg (by rw [ti_lt, ti_n0]; exact q), if_neg q]
theorem e_lost (h0 : 0 ≤ v.toInt) (h1 : v.toInt < 144) : F_X1_findLost M v = some (if 0 < (M 11 v.toNatClampNeg).toInt then (1, up2 (up2 M 11 v.toNatClampNeg (M 11 v.toNatClampNeg - 1)) 10 v.toNatClampNeg (M 10 v.toNatClampNeg + 1)) else (0, M)) := by
  unfold F_X1_findLost
  have g : inb v 144 = true := ti_in h0 (by omega)
  rw [e_isWay h0 h1, bi_s, if_neg (by decide), show ln 10 = 144 from rfl, show ln 11 = 144 from rfl, g, gd_t, gd_t, gd_t]
  by_cases q : 0 < (M 11 v.toNatClampNeg).toInt
  · rw [if_pos (by rw [ti_lt, ti_n0]; exact q), if_pos q, bm_d, gd_t, gd_t, bm_d, up2_k (show (10 : Nat) ≠ 11 by decide)]
  · rw [if_neg (by rw [ti_lt, ti_n0]; exact q), if_neg q]
theorem Rr_th (h : Rr n M N) : Rr n (up2 M 10 k x) (up2 N 18 k x) := by
  obtain ⟨a, b, c, d, e⟩ := h.2.2.1
  refine Rr_C h ?_ (fun k j k10 k11 k9 k14 k15 => up2_k k10) (fun k j k18 k19 k23 kz => up2_k k18)
  refine ⟨fun y hy => ?_, fun y hy => ?_, ?_, ?_, fun j hj => ?_⟩
  · rw [up2_k (by decide), up2_k (by decide), up2_k (by decide), up2_k (by decide)]; exact a y hy
  · rw [up2_k (show (11 : Nat) ≠ 10 by decide), up2_k (show (19 : Nat) ≠ 18 by decide)]
    refine ⟨?_, (b y hy).2⟩
    by_cases q : y = k
    · rw [q, up2_s, up2_s]
    · rw [up2_j q, up2_j q]; exact (b y hy).1
  · rw [up2_k (by decide), up2_k (by decide)]; exact c
  · rw [up2_k (by decide), up2_k (by decide)]; exact d
  · rw [up2_k (by decide), up2_k (by decide)]; exact e j hj
theorem Rr_ls (h : Rr n M N) : Rr n (up2 M 11 k x) (up2 N 19 k x) := by
  obtain ⟨a, b, c, d, e⟩ := h.2.2.1
  refine Rr_C h ?_ (fun k j k10 k11 k9 k14 k15 => up2_k k11) (fun k j k18 k19 k23 kz => up2_k k19)
  refine ⟨fun y hy => ?_, fun y hy => ?_, ?_, ?_, fun j hj => ?_⟩
  · rw [up2_k (by decide), up2_k (by decide), up2_k (by decide), up2_k (by decide)]; exact a y hy
  · rw [up2_k (show (10 : Nat) ≠ 11 by decide), up2_k (show (18 : Nat) ≠ 19 by decide)]
    refine ⟨(b y hy).1, ?_⟩
    by_cases q : y = k
    · rw [q, up2_s, up2_s]
    · rw [up2_j q, up2_j q]; exact (b y hy).2
  · rw [up2_k (by decide), up2_k (by decide)]; exact c
  · rw [up2_k (by decide), up2_k (by decide)]; exact d
  · rw [up2_k (by decide), up2_k (by decide)]; exact e j hj
/-- what a try to get something leaves: got counts up where it is got -/
def Gt (n w : Nat) (q : Int32 × Mem) (N N2 : Mem) : Prop := (q.1 = 1 → Rr n (up2 q.2 (16 + 7 * w) 7 (q.2 (16 + 7 * w) 7 + 1)) N2) ∧ (q.1 ≠ 1 → Rr n q.2 N2) ∧ RG N2 ∧ (N2 0 13 = N 0 13 ∨ N2 0 13 = N 0 13 + 1)
theorem msg_eq (h : Rr n M N) (hg : RG N) (hM : CI n M) (hN : MT n N) (hw : w < n) (h10 : (N 10 w).toInt = 0) (h0 : 0 ≤ p2.toInt) (h1 : p2.toInt < 12) : Ok (F_X5_goForMessage M (16 + 7 * w) p2) (fun q => CI n q.2 ∧ ∃ N2, F_X6_hears N (nI w) p2 = some (q.1, N2) ∧ Gt n w q N N2) := by
  have h12 := hN.1
  refine ok_and (s_goForMessage hM (wok.of (by omega))) ?_
  have ew : (nI w).toInt = w := ti_nI (by omega)
  obtain ⟨e1, e2⟩ := e_way (u := p2) (v := nI w) h0 h1 (by omega) (by omega)
  obtain ⟨q', eq', hq'⟩ := m_hears (N := N) (p1 := nI w) (p2 := p2) (by omega) (by omega) h0 h1
  rw [← e1] at hq'
  unfold F_X5_goForMessage F_X1_way
  rw [hM.nm (by omega), bi_s]
  generalize p2 * 12 + nI w = kk at e2 hq' ⊢
  have hk : kk.toNatClampNeg < 144 := by rw [ti_cl]; omega
  obtain ⟨b1, b2⟩ := h.2.2.1.2.1 kk.toNatClampNeg hk
  have hls := hN.ls (j := kk.toNatClampNeg)
  have eP := e_ptake (M := M) (v := kk) (by omega) (by omega)
  have eL := e_lost (M := M) (v := kk) (by omega) (by omega)
  rw [b1] at eP
  rw [b2, b1] at eL
  have a7 : M (16 + 7 * w) 7 = N 5 w := (h.1 w (by omega)).2.2.2.1
  have a8 : M (16 + 7 * w) 8 = N 8 w := (h.1 w (by omega)).2.2.2.2.1
  by_cases q : 0 < (N 18 kk.toNatClampNeg).toInt
  · rw [if_pos q] at eP
    rw [eP, bi_s, if_neg (show ¬ (1 : Int32) = 0 by decide)]
    refine ok_s ?_
    rcases hq' with ⟨hq', hx⟩ | ⟨hq', hx⟩ | ⟨hq', hx⟩
    · refine ⟨hdN N (nI w) kk, by rw [eq', hq'], fun _ => ?_, fun q => absurd rfl q, ?_, Or.inl ?_⟩
      · show Rr n (up2 (up2 M 10 _ _) (16 + 7 * w) 7 (up2 M 10 _ _ (16 + 7 * w) 7 + 1)) _
        unfold hdN
        rw [up2_k (show 16 + 7 * w ≠ 10 by omega), a7, nI_cl (by omega)]
        exact Rr_fld (Rr_th h) (Or.inr (Or.inr (Or.inl ⟨rfl, rfl⟩))) (RF_w (Rr_th (x := N 18 kk.toNatClampNeg - 1) (k := kk.toNatClampNeg) h).2.2.2.2.2 (Or.inr (Or.inr (Or.inl rfl))) (by rw [up2_k (by decide)]; exact h10))
      · unfold hdN
        exact RG_c hg (fun j => by rw [up2_k (by decide), up2_k (by decide)]) (fun j => by rw [up2_k (by decide), up2_k (by decide)])
      · unfold hdN
        rw [up2_k (by decide), up2_k (by decide)]
    · omega
    · omega
  · rw [if_neg q] at eP
    rw [eP, bi_s, if_pos (show (0 : Int32) = 0 from rfl)]
    by_cases q2 : 0 < (N 19 kk.toNatClampNeg).toInt
    · rw [if_pos q2] at eL
      show Ok (bi (F_X1_findLost M kk) _) _
      rw [eL, bi_s, if_neg (show ¬ (1 : Int32) = 0 by decide), bm_d]
      refine ok_s ?_
      rcases hq' with ⟨hq', hx⟩ | ⟨hq', hx⟩ | ⟨hq', hx⟩
      · omega
      · omega
      · refine ⟨asN N (nI w) kk, by rw [eq', hq'], fun q => absurd q (show ¬ (5 : Int32) = 1 by decide), fun _ => ?_, ?_, Or.inl ?_⟩
        · show Rr n (up2 (up2 (up2 M 11 _ _) 10 _ _) (16 + 7 * w) 8 (up2 (up2 M 11 _ _) 10 _ _ (16 + 7 * w) 8 + 1)) _
          unfold asN
          rw [up2_k (show 16 + 7 * w ≠ 10 by omega), up2_k (show 16 + 7 * w ≠ 11 by omega), a8, nI_cl (by omega)]
          exact Rr_fld (Rr_th (Rr_ls h)) (Or.inr (Or.inr (Or.inr (Or.inl ⟨rfl, rfl⟩)))) (RF_o (Rr_th (Rr_ls h)).2.2.2.2.2 (by decide))
        · unfold asN
          exact RG_c hg (fun j => by rw [up2_k (by decide), up2_k (by decide), up2_k (by decide)]) (fun j => by rw [up2_k (by decide), up2_k (by decide), up2_k (by decide)])
        · unfold asN
          rw [up2_k (by decide), up2_k (by decide), up2_k (by decide)]
    · rw [if_neg q2] at eL
      show Ok (bi (F_X1_findLost M kk) _) _
      rw [eL, bi_s, if_pos (show (0 : Int32) = 0 from rfl)]
      refine ok_s ?_
      rcases hq' with ⟨hq', hx⟩ | ⟨hq', hx⟩ | ⟨hq', hx⟩
      · omega
      · exact ⟨N, by rw [eq', hq'], fun q => absurd q (show ¬ (4 : Int32) = 1 by decide), fun _ => h, hg, Or.inl rfl⟩
      · omega
theorem e_takes (hN : MT n N) (h0 : 0 ≤ p1.toInt) (h1 : p1.toInt < 12) (c0 : 0 ≤ p2.toInt) (c1 : p2.toInt < 10) : Ok (F_X6_takes N p1 p2) (fun q => (q = (1, tkN N p1 p2) ∧ (N 16 p2.toNatClampNeg = p1 + 1 ∨ (N 16 p2.toNatClampNeg = 0 ∧ sm (ap N p2 p1) n = 0))) ∨ (¬ (N 16 p2.toNatClampNeg = p1 + 1 ∨ (N 16 p2.toNatClampNeg = 0 ∧ sm (ap N p2 p1) n = 0)) ∧ ((q = (3, N) ∧ N 10 p1.toNatClampNeg = p2 + 1) ∨ (q = (3, waN N p1 p2) ∧ ¬ N 10 p1.toNatClampNeg = p2 + 1)))) := by
  unfold F_X6_takes
  have gw : inb p1 12 = true := ti_in h0 (by omega)
  have gc : inb p2 10 = true := ti_in c0 (by omega)
  generalize hP : (N 16 p2.toNatClampNeg = p1 + 1 ∨ (N 16 p2.toNatClampNeg = 0 ∧ sm (ap N p2 p1) n = 0)) = P
  have tk : P → Ok (gd (inb p2 (lm 16)) <| bm (up2 N 16 p2.toNatClampNeg (p1 + 1)) fun M_4 => gd (inb p1 (lm 10)) <| bm (up2 M_4 10 p1.toNatClampNeg 0) fun M_6 => gd (inb p1 (lm 5)) <| gd (inb p1 (lm 5)) <| bm (up2 M_6 5 p1.toNatClampNeg ((M_6 5 p1.toNatClampNeg) + 1)) fun M_9 => some ((1 : Int32), M_9)) (fun q => (q = (1, tkN N p1 p2) ∧ P) ∨ (¬ P ∧ ((q = (3, N) ∧ N 10 p1.toNatClampNeg = p2 + 1) ∨ (q = (3, waN N p1 p2) ∧ ¬ N 10 p1.toNatClampNeg = p2 + 1)))) := by
    intro hp
    refine ok_g gc (ok_m (ok_g gw (ok_m (ok_g gw (ok_g gw (ok_m (ok_s (Or.inl ⟨?_, hp⟩))))))))
    unfold tkN
    rw [up2_k (show (5 : Nat) ≠ 10 by decide), up2_k (show (5 : Nat) ≠ 16 by decide)]
  have wa : ¬ P → Ok (gd (inb p1 (lm 10)) <| (if (N 10 p1.toNatClampNeg) = (p2 + 1) then some ((3 : Int32), N) else gd (inb p1 (lm 10)) <| bm (up2 N 10 p1.toNatClampNeg (p2 + 1)) fun M_25 => gd (inb p1 (lm 11)) <| bm (up2 M_25 11 p1.toNatClampNeg (M_25 0 13)) fun M_27 => bm (up2 M_27 0 13 ((M_27 0 13) + 1)) fun M_28 => some (3, M_28))) (fun q => (q = (1, tkN N p1 p2) ∧ P) ∨ (¬ P ∧ ((q = (3, N) ∧ N 10 p1.toNatClampNeg = p2 + 1) ∨ (q = (3, waN N p1 p2) ∧ ¬ N 10 p1.toNatClampNeg = p2 + 1)))) := by
    intro hp
    refine ok_g gw (ok_i (fun d => ok_s (Or.inr ⟨hp, Or.inl ⟨rfl, d⟩⟩)) (fun d => ok_g gw (ok_m (ok_g gw (ok_m (ok_m (ok_s (Or.inr ⟨hp, Or.inr ⟨?_, d⟩⟩))))))))
    unfold waN
    rw [up2_k (show (0 : Nat) ≠ 10 by decide), up2_k (show (0 : Nat) ≠ 11 by decide), up2_k (show (0 : Nat) ≠ 10 by decide)]
  refine ok_g gc (ok_i (fun a => tk (by rw [← hP]; exact Or.inl a)) (fun a => ok_g gc (ok_i (fun b => ok_b (e_ahead hN h0 h1) (fun q hq => ok_i (fun d => tk ?_) (fun d => wa ?_))) (fun b => wa ?_))))
  · rw [← hP]
    exact Or.inr ⟨b, by rw [← hq, d, ti_n0]⟩
  · rw [← hP]
    rintro (z | ⟨-, z⟩)
    · exact a z
    · exact d (by rw [ti_eq, hq, z, ti_n0])
  · rw [← hP]
    rintro (z | ⟨z, -⟩)
    · exact a z
    · exact b z
theorem e_take (hM : CI n M) (hc : c < 10) (hw : w < 12) (hnd : (rl M c).Nodup) : Ok (F_X3_take M (nI c) (nI w)) (fun M' => rl M' c = (rl M c).filter (fun x => decide (¬ x = nI w)) ∧ (∀ c', c' < 10 → c' ≠ c → rl M' c' = rl M c') ∧ (∀ j, M' 5 j = if j = c then nI w else M 5 j) ∧ (∀ j, M' 4 j = if j = c then M 3 c else M 4 j) ∧ ∀ k j, k ≠ 4 → k ≠ 5 → k ≠ 7 → k ≠ 8 → M' k j = M k j) := by
  unfold F_X3_take
  have ec : (nI c).toInt = c := ti_nI (by omega)
  have g : inb (nI c) 10 = true := ti_in (by omega) (by omega)
  refine ok_b (e_remove hM ec hc hnd) (fun X ⟨hX, x1, x2, x3⟩ => ok_g g (ok_m (ok_g g (ok_g g (ok_m (ok_s ?_))))))
  rw [nI_cl (by omega), up2_k (show (3 : Nat) ≠ 5 by decide), x3 3 _ (by decide) (by decide)]
  have r : ∀ y, rl (up2 (up2 X 5 c (nI w)) 4 c (M 3 c)) y = rl X y := fun y => rl_c (by rw [up2_k (by decide), up2_k (by decide)]) (fun i _ => by rw [up2_k (by decide), up2_k (by decide)])
  refine ⟨by rw [r, x1], fun c' h1 h2 => by rw [r, x2 c' h1 h2], fun j => ?_, fun j => ?_, fun k j k4 k5 k7 k8 => by rw [up2_k k4, up2_k k5, x3 k j k7 k8]⟩
  · rw [up2_k (by decide)]
    by_cases q : j = c
    · rw [if_pos q, q, up2_s]
    · rw [if_neg q, up2_j q, x3 5 j (by decide) (by decide)]
  · by_cases q : j = c
    · rw [if_pos q, q, up2_s]
    · rw [if_neg q, up2_j q, up2_k (by decide), x3 4 j (by decide) (by decide)]
theorem copy_eq (h : Rr n M N) (hg : RG N) (hM : CI n M) (hN : MT n N) (hw : w < n) (hc : c < 10) (h10 : (N 10 w).toInt = 0 ∨ (N 10 w).toInt = c + 1) (hk0 : 0 ≤ (N 0 13).toInt) (hk1 : (N 0 13).toInt ≤ 2147483646) (hf : (N 3 w).toInt = 0 ∧ (N 7 w).toInt ≠ 0 ∧ (N 5 w).toInt < (N 12 (10 * w + spn N w)).toInt ∧ (N 13 (4 * (10 * w + spn N w) + gtn N w)).toInt = c) : Ok (F_X5_goForCopy M (16 + 7 * w) (nI c)) (fun q => CI n q.2 ∧ ∃ N2, F_X6_takes N (nI w) (nI c) = some (q.1, N2) ∧ Gt n w q N N2) := by
  have h12 := hN.1
  have ew : (nI w).toInt = w := ti_nI (by omega)
  have ec : (nI c).toInt = c := ti_nI (by omega)
  have ecl : (nI c).toNatClampNeg = c := nI_cl (by omega)
  have ewl : (nI w).toNatClampNeg = w := nI_cl (by omega)
  have hD := h.2.2.2.1
  have hnd := hD.nd hc
  have hC := h.2.2.1
  refine ok_and (s_goForCopy hM (wok.of (by omega)) (by omega) (by omega)) ?_
  obtain ⟨q', eq', hq'⟩ := e_takes (p1 := nI w) (p2 := nI c) hN (by omega) (by omega) (by omega) (by omega)
  rw [ecl, ewl, own_iff hN (by omega)] at hq'
  have a7 : M (16 + 7 * w) 7 = N 5 w := (h.1 w (by omega)).2.2.2.1
  have g : inb (nI c) 10 = true := ti_in (by omega) (by omega)
  have mw := rd_mem hD h12 hc hw
  have hol := hold_iff hC hM hN hc (show w < 12 by omega)
  unfold F_X5_goForCopy
  rw [hM.nm (by omega)]
  refine ok_g g ?_
  rw [ecl]
  refine ok_i (fun a => ok_s ?_) (fun a => ok_b (e_free hM hD h12 hc hw) (fun q hq => ?_))
  · have ho := hol.mp a
    have z10 : (N 10 w).toInt = 0 := by
      rcases h10 with z | z
      · exact z
      · exact absurd ho (hg w c (by omega) hc z)
    have et : tkN N (nI w) (nI c) = up2 N 5 w (N 5 w + 1) := by
      unfold tkN
      rw [ecl, ewl, up2_no (show N 16 c = nI w + 1 from (own_iff hN (by omega)).mpr ho), up2_no (show N 10 w = 0 by rw [ti_eq, z10, ti_n0])]
    rcases hq' with ⟨hq', -⟩ | ⟨hq', -⟩
    · refine ⟨_, by rw [eq', hq'], fun _ => ?_, fun q => absurd rfl q, ?_, Or.inl ?_⟩
      · show Rr n (up2 M (16 + 7 * w) 7 (M (16 + 7 * w) 7 + 1)) _
        rw [et, a7]
        exact Rr_fld h (Or.inr (Or.inr (Or.inl ⟨rfl, rfl⟩))) (RF_w h.2.2.2.2.2 (Or.inr (Or.inr (Or.inl rfl))) z10)
      · rw [et]
        exact RG_c hg (fun j => up2_k (by decide)) (fun j => up2_k (by decide))
      · rw [et, up2_k (by decide)]
    · exact absurd (Or.inl ho) hq'
  · have hno : ¬ (N 16 c).toInt = w + 1 := fun q => a (hol.mpr q)
    have hfr : M 5 c = -1 ↔ N 16 c = 0 := by
      have := (hC.1 c hc).2
      rw [ti_eq, ti_m1, ti_eq, ti_n0]
      omega
    have hah := ah_0 hD h12 hc hw
    rcases hq with ⟨rfl, hq1, hq2⟩ | ⟨rfl, hq⟩
    · refine ok_i (fun d => absurd d (by decide)) (fun _ => ok_b (e_take hM hc (by omega) hnd) (fun M1 ⟨m1, m2, m5, m4, m3⟩ => ok_s ?_))
      have ho := hfr.mp hq1
      have ho' : (N 16 c).toInt = 0 := by rw [ho, ti_n0]
      rcases hq' with ⟨hq', -⟩ | ⟨hq', -⟩
      · have r1 := Rr_take h hM hN hw hc ho' h10 m1 m2 m5 m4 m3
        have et : tkN N (nI w) (nI c) = up2 (up2 (up2 N 16 c (nI w + 1)) 10 w 0) 5 w (N 5 w + 1) := by
          unfold tkN
          rw [ecl, ewl]
        refine ⟨_, by rw [eq', hq'], fun _ => ?_, fun q => absurd rfl q, ?_, Or.inl ?_⟩
        · show Rr n (up2 M1 (16 + 7 * w) 7 (M1 (16 + 7 * w) 7 + 1)) _
          rw [et, m3 _ _ (by omega) (by omega) (by omega) (by omega), a7]
          exact Rr_fld r1 (Or.inr (Or.inr (Or.inl ⟨rfl, rfl⟩))) (RF_w r1.2.2.2.2.2 (Or.inr (Or.inr (Or.inl rfl))) (by rw [up2_s]; exact ti_n0))
        · rw [et]
          exact RG_c (RG_take (c := c) hg (show w < 12 by omega)) (fun j => up2_k (by decide)) (fun j => up2_k (by decide))
        · rw [et, up2_k (by decide), up2_k (by decide), up2_k (by decide)]
      · exact absurd (Or.inr ⟨ho, hah.mpr hq2⟩) hq'
    · have hP : ¬ ((N 16 c).toInt = w + 1 ∨ (N 16 c = 0 ∧ sm (ap N (nI c) (nI w)) n = 0)) := by
        rintro (z | ⟨z1, z2⟩)
        · exact hno z
        · exact hq ⟨hfr.mpr z1, hah.mp z2⟩
      have hq' := (hq'.resolve_left (fun z => hP z.2)).2
      by_cases hin : nI w ∈ rl M c
      · have hl : 0 ≤ (M 7 c).toInt ∧ (M 7 c).toInt ≤ 12 := hM.l7 c
        refine ok_i (fun _ => ?_) (fun d => absurd rfl d)
        have st : Ok (F_X3_standInLine M (nI c) (nI w)) (fun M' => M' = M) := by
          unfold F_X3_standInLine
          refine ok_b (e_placeOf hM ec hc) (fun q hq => ?_)
          rcases hq with ⟨rfl, hq⟩ | ⟨i, rfl, hi, he⟩
          · exact absurd hin hq
          · refine ok_i (fun d => ?_) (fun _ => ok_s rfl)
            rw [ti_eq, ti_nI (by omega), ti_m1] at d
            omega
        refine ok_b st (fun M1 hM1 => ok_s ?_)
        subst hM1
        have z10 := (w10_iff hc).mpr (mw.mp hin)
        rcases hq' with ⟨hq', -⟩ | ⟨-, hq'⟩
        · exact ⟨N, by rw [eq', hq'], fun q => absurd q (show ¬ (3 : Int32) = 1 by decide), fun _ => h, hg, Or.inl rfl⟩
        · exact absurd z10 hq'
      · have z10 : ¬ (N 10 w).toInt = c + 1 := fun q => hin (mw.mpr q)
        have hlen := nd_lt hnd (rd_k hD hc) h12 hw hin
        rw [rl_len] at hlen
        have h7 := hM.l7 c
        refine ok_i (fun _ => ?_) (fun d => absurd rfl d)
        refine ok_b (e_stand hM ec hc (by omega)) (fun M1 ⟨hM1, hs⟩ => ok_s ?_)
        rcases hs with ⟨hs, -⟩ | ⟨-, m1, m2, m3⟩
        · exact absurd hs hin
        · rcases hq' with ⟨-, hq'⟩ | ⟨hq', -⟩
          · exact absurd ((w10_iff hc).mp hq') z10
          · refine ⟨_, by rw [eq', hq'], fun q => absurd q (show ¬ (3 : Int32) = 1 by decide), fun _ => Rr_wait h hM hN hw hc (h10.resolve_right z10) hk0 hk1 hf m1 m2 m3, RG_wait hg (by omega) hc hno, Or.inr ?_⟩
            unfold waN
            rw [up2_s]
end UX
