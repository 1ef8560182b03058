section VX
variable {n : Nat} {M M' N N' : Mem} {w c k : Nat} {u v p1 p2 x : Int32} {B : Int}
theorem dk_n (hN : MT n N) (hw : w < 12) (hs : (N 4 w).toInt < 10) : (dk N (nI w)).toNatClampNeg = 10 * w + spn N w := by
  have ew : (nI w).toInt = w := ti_nI (by omega)
  have e := m_dk (p1 := nI w) hN (by omega) (by omega) (by rw [nI_cl (by omega)]; exact hs)
  rw [nI_cl (by omega), ew] at e
  have := hN.sp (j := w)
  unfold spn
  rw [ti_cl]; omega
theorem dwh_n (hN : MT n N) (hw : w < 12) (hs : (N 4 w).toInt < 10) : dwh N (nI w) = N 13 (4 * (10 * w + spn N w) + gtn N w) := by
  have ew : (nI w).toInt = w := ti_nI (by omega)
  have e := m_d4 (p1 := nI w) hN (by omega) (by omega) (by rw [nI_cl (by omega)]; exact hs)
  rw [nI_cl (by omega), ew] at e
  have := hN.sp (j := w)
  have := hN.gt (j := w)
  unfold dwh spn gtn
  rw [nI_cl (by omega)]
  congr 1
  rw [ti_cl]; omega
theorem e_isCopy : F_X5_isCopy M v = some (if 0 ≤ v.toInt ∧ v.toInt < 10 then 1 else 0) := by
  unfold F_X5_isCopy
  by_cases a : v.toInt < 0
  · rw [if_pos (by rw [ti_lt, ti_n0]; exact a), if_neg (by omega)]
  · rw [if_neg (by rw [ti_lt, ti_n0]; exact a)]
    by_cases b : 10 ≤ v.toInt
    · rw [if_pos (by rw [ti_le, ti_n10]; exact b), if_neg (by omega)]
    · rw [if_neg (by rw [ti_le, ti_n10]; exact b), if_pos (by omega)]
theorem next_eq (h : Rr n M N) (hg : RG N) (hM : CI n M) (hN : MT n N) (hw : w < n) (hs : (N 4 w).toInt < 10) (hgt : (N 5 w).toInt < (N 12 (10 * w + spn N w)).toInt) (hs3 : (N 3 w).toInt = 0) (h7 : (N 7 w).toInt ≠ 0) (hk0 : 0 ≤ (N 0 13).toInt) (hk1 : (N 0 13).toInt ≤ 2147483646) : Ok (F_X5_goForNext M (16 + 7 * w)) (fun q => CI n q.2 ∧ ∃ N2, (if (dwh N (nI w)).toInt < 100 then F_X6_takes N (nI w) (dwh N (nI w)) else F_X6_hears N (nI w) (dwh N (nI w) - 100)) = some (q.1, N2) ∧ Rr n q.2 N2 ∧ RG N2 ∧ (N2 0 13 = N 0 13 ∨ N2 0 13 = N 0 13 + 1)) := by
  have h12 := hN.1
  have hw12 : w < 12 := by omega
  have hwk := wok.of (i := w) hw12
  refine ok_and (s_goForNext hM hwk) ?_
  have a6 : M (16 + 7 * w) 6 = N 4 w := (h.1 w hw12).2.2.1
  have a7 : M (16 + 7 * w) 7 = N 5 w := (h.1 w hw12).2.2.2.1
  have hsp := hN.sp (j := w)
  have hgg := hN.gt (j := w)
  have hwc := hN.wc (j := 10 * w + spn N w)
  have es : (N 4 w).toNatClampNeg = spn N w := rfl
  have eg : (N 5 w).toNatClampNeg = gtn N w := rfl
  have hs10 : spn N w < 10 := by unfold spn; omega
  have hg4 : gtn N w < 4 := by unfold gtn; omega
  obtain ⟨rb1, -, rb3, -⟩ := h.2.1 w (spn N w) hw12 hs10
  have rb3 := rb3 (gtn N w) hg4
  rw [dwh_n hN hw12 hs]
  unfold F_X5_goForNext
  rw [a6, a7, e_item (rw_w1 hwk) hM, es, eg, if_pos ⟨⟨hsp.1, by omega⟩, hgg.1, (show (N 5 w).toInt < (M (16 + 7 * w + 2) (spn N w)).toInt by rw [rb1]; exact hgt)⟩, bi_s, e_isCopy, bi_s]
  have hwt := hN.wt (j := 4 * (10 * w + spn N w) + gtn N w)
  have hrf := h.2.2.2.2.2 w hw12
  generalize hW : N 13 (4 * (10 * w + spn N w) + gtn N w) = W at rb3 hwt hrf ⊢
  have hX : ∃ X, M (16 + 7 * w + 1 + 2) (spn N w * 4 + gtn N w) = X ∧ we X W := ⟨_, rfl, rb3⟩
  obtain ⟨X, hX1, hX2⟩ := hX
  rw [hX1]
  have fin : ∀ (q : Int32 × Mem), CI n q.2 → (∃ N2, (if W.toInt < 100 then F_X6_takes N (nI w) W else F_X6_hears N (nI w) (W - 100)) = some (q.1, N2) ∧ Gt n w q N N2) → Ok (if q.1 = 1 then bm (up2 q.2 (16 + 7 * w) 7 ((q.2 (16 + 7 * w) 7) + 1)) fun M_10 => some (q.1, M_10) else some (q.1, q.2)) (fun q => ∃ N2, (if W.toInt < 100 then F_X6_takes N (nI w) W else F_X6_hears N (nI w) (W - 100)) = some (q.1, N2) ∧ Rr n q.2 N2 ∧ RG N2 ∧ (N2 0 13 = N 0 13 ∨ N2 0 13 = N 0 13 + 1)) := by
    rintro q hq ⟨N2, e, g1, g2, g3, g4⟩
    exact ok_i (fun a => ok_m (ok_s ⟨N2, e, g1 a, g3, g4⟩)) (fun a => ok_s ⟨N2, e, g2 a, g3, g4⟩)
  rcases hwt with hwt | hwt
  · have hXW : X = W := hX2.1 (by omega)
    subst hXW
    rw [if_pos (show 0 ≤ X.toInt ∧ X.toInt < 10 by omega)]
    refine ok_i (fun d => absurd d (by decide)) (fun _ => ?_)
    obtain ⟨c, hc⟩ : ∃ c : Nat, X.toInt = c := ⟨X.toInt.toNat, by omega⟩
    have hXc : X = nI c := of_nI hc
    have hc10 : c < 10 := by omega
    have z10 : (N 10 w).toInt = 0 ∨ (N 10 w).toInt = c + 1 := by
      by_cases q : (N 10 w).toInt = 0
      · exact Or.inl q
      · have := (hrf q).2.2.2.2.1
        omega
    rw [hXc] at fin ⊢
    have eci : (nI c).toInt = c := ti_nI (by omega)
    refine ok_b (copy_eq h hg hM hN hw hc10 z10 hk0 hk1 ⟨hs3, h7, hgt, by rw [hW, hc]⟩) (fun q ⟨hq1, N2, hq2, hq3⟩ => fin q hq1 ⟨N2, by rw [if_pos (by omega)]; exact hq2, hq3⟩)
  · have hXW : X.toInt = W.toInt - 90 := hX2.2 (by omega)
    rw [if_neg (show ¬ (0 ≤ X.toInt ∧ X.toInt < 10) by omega)]
    refine ok_i (fun _ => ?_) (fun d => absurd rfl d)
    have e1 : (X - 10).toInt = X.toInt - 10 := by rw [ti_sub (by rw [ti_n10]; omega) (by rw [ti_n10]; omega), ti_n10]
    have e2 : (W - 100).toInt = W.toInt - 100 := by rw [ti_sub (by rw [ti_n100]; omega) (by rw [ti_n100]; omega), ti_n100]
    have eX : X - 10 = W - 100 := by rw [ti_eq, e1, e2]; omega
    have hwf := hN.wf (j := w)
    have z10 : (N 10 w).toInt = 0 := by
      by_cases q : (N 10 w).toInt = 0
      · exact q
      · have := (hrf q).2.2.2.2.1
        omega
    rw [eX]
    refine ok_b (msg_eq h hg hM hN hw z10 (by omega) (by omega)) (fun q ⟨hq1, N2, hq2, hq3⟩ => fin q hq1 ⟨N2, by rw [if_neg (by omega)]; exact hq2, hq3⟩)
theorem act_eq (h : Rr n M N) (hg : RG N) (hM : CI n M) (hN : MT n N) (hw : w < n) (h10 : (N 10 w).toInt = 0) (hs : (N 4 w).toInt < 10) (hst : (N 4 w).toInt < (N 1 w).toInt) (hne : N 2 w ≠ N 4 w) (hA : AcP (nI w) n N N') : Ok (F_X5_actOrFail M (16 + 7 * w)) (fun q => CI n q.2 ∧ q.1 = 2 ∧ Rr n q.2 N' ∧ RG N' ∧ N' 0 13 = N 0 13) := by
  have h12 := hN.1
  have hw12 : w < 12 := by omega
  have hwk := wok.of (i := w) hw12
  have ew : (nI w).toInt = w := ti_nI (by omega)
  refine ok_and (s_actOrFail hM hwk) ?_
  have a6 : M (16 + 7 * w) 6 = N 4 w := (h.1 w hw12).2.2.1
  have a4 : M (16 + 7 * w) 4 = N 2 w := ((h.1 w hw12).1 hw).2
  obtain ⟨N1, N3, N4, hA1, e3, -, e4, hM4, hfin⟩ := hA
  rw [nI_cl (by omega)] at hA1 e3 e4 hfin
  unfold F_X5_actOrFail
  rw [hM.nm hw12, a6, a4]
  refine ok_i (fun q => absurd q.symm hne) (fun _ => ok_b (e_change hM) (fun M1 ⟨hM1, m1, m2⟩ => ?_))
  have r1 : Rr n M1 N1 := Rr_act1 h hM hN hw12 m1 m2 hA1
  have b6 : M1 (16 + 7 * w) 6 = N 4 w := by rw [m1 _ _ (by omega), a6]
  rw [hM1.nm hw12, b6]
  refine ok_b (Rr_log r1 hM1 hA1.1) (fun M2 ⟨hM2, r2, f2⟩ => ?_)
  have hLN : MT n (lgN N1 (nI w) (N 4 w)) := lg_M hA1.1
  have l4 : lgN N1 (nI w) (N 4 w) 4 w = N 4 w := by rw [lg_f (by decide) (Or.inl (by decide)), hA1.2.1 _ _ (by decide) (by decide) (by decide) (by decide) (Or.inl (by decide))]
  have hsn := Rr_sends r2 hM2 hLN hw12 (by rw [l4]; exact hs)
  rw [l4, ← e3] at hsn
  refine ok_b hsn (fun M3 ⟨hM3, r3, f3⟩ => ?_)
  have fN : ∀ a b : Nat, a ≠ 17 → a ≠ 18 → a ≠ 19 → a ≠ 20 → a ≠ 21 → a ≠ 22 → a ≠ 23 → (a ≠ 0 ∨ b = 13) → N3 a b = N a b := by
    intro a b h17 h18 h19 h20 h21 h22 h23 h0
    rw [e3, sdl_f h18 h19 (by omega), lg_f h23 (by omega), hA1.2.1 _ _ h17 h20 h21 h22 (by omega)]
  have g4 : ∀ a b : Nat, a ≠ 4 → a ≠ 5 → N4 a b = N3 a b := by
    intro a b h4 h5
    rw [e4, up2_k h5, up2_k h4]
  have x10 : ∀ j, N4 10 j = N 10 j := fun j => by rw [g4 _ _ (by decide) (by decide), fN _ _ (by decide) (by decide) (by decide) (by decide) (by decide) (by decide) (by decide) (Or.inl (by decide))]
  have x16 : ∀ j, N4 16 j = N 16 j := fun j => by rw [g4 _ _ (by decide) (by decide), fN _ _ (by decide) (by decide) (by decide) (by decide) (by decide) (by decide) (by decide) (Or.inl (by decide))]
  have x13 : N4 0 13 = N 0 13 := by rw [g4 _ _ (by decide) (by decide), fN _ _ (by decide) (by decide) (by decide) (by decide) (by decide) (by decide) (by decide) (Or.inr rfl)]
  have x1 : N4 1 w = N 1 w := by rw [g4 _ _ (by decide) (by decide), fN _ _ (by decide) (by decide) (by decide) (by decide) (by decide) (by decide) (by decide) (Or.inl (by decide))]
  have x34 : N3 4 w = N 4 w := fN _ _ (by decide) (by decide) (by decide) (by decide) (by decide) (by decide) (by decide) (Or.inl (by decide))
  have y10 : (N3 10 w).toInt = 0 := by rw [fN _ _ (by decide) (by decide) (by decide) (by decide) (by decide) (by decide) (by decide) (Or.inl (by decide)), h10]
  have hsp := hN.sp (j := w)
  have x4 : (N4 4 w).toInt = (N 4 w).toInt + 1 := by rw [e4, up2_k (by decide), up2_s, x34, ti_inc (by omega)]
  have gg : RG N4 := RG_c hg x10 x16
  have c6 : M3 (16 + 7 * w) 6 = N3 4 w := (r3.1 w hw12).2.2.1
  refine ok_m (ok_m ?_)
  have r4 : Rr n (up2 (up2 M3 (16 + 7 * w) 6 (M3 (16 + 7 * w) 6 + 1)) (16 + 7 * w) 7 0) N4 := by
    rw [e4, c6]
    have r := Rr_fld (v := N3 4 w + 1) r3 (Or.inr (Or.inl ⟨rfl, rfl⟩)) (RF_w r3.2.2.2.2.2 (Or.inr (Or.inl rfl)) y10)
    exact Rr_fld r (Or.inr (Or.inr (Or.inl ⟨rfl, rfl⟩))) (RF_w r.2.2.2.2.2 (Or.inr (Or.inr (Or.inl rfl))) (by rw [up2_k (by decide)]; exact y10))
  have hM5 : CI n (up2 (up2 M3 (16 + 7 * w) 6 (M3 (16 + 7 * w) 6 + 1)) (16 + 7 * w) 7 0) := (hM3.up (tc_w hwk (by decide))).up (tc_w hwk (by decide))
  generalize up2 (up2 M3 (16 + 7 * w) 6 (M3 (16 + 7 * w) 6 + 1)) (16 + 7 * w) 7 0 = M5 at r4 hM5 ⊢
  have d6 : M5 (16 + 7 * w) 6 = N4 4 w := (r4.1 w hw12).2.2.1
  have d3 : M5 (16 + 7 * w) 3 = N4 1 w := ((r4.1 w hw12).1 hw).1
  rw [d6, d3]
  refine ok_i (fun a => ok_s ?_) (fun a => ?_)
  · rw [ti_lt] at a
    rcases hfin with ⟨q, -⟩ | ⟨-, rfl⟩
    · rw [q] at a; omega
    · exact ⟨rfl, r4, gg, x13⟩
  · rw [ti_lt, x4, x1] at a
    rcases hfin with ⟨-, N5, hF, rfl⟩ | ⟨q, -⟩
    · have r5 : Rr n (up2 M5 (16 + 7 * w) 5 1) (up2 N4 3 w 1) := Rr_fld r4 (Or.inl ⟨rfl, rfl⟩) (RF_w r4.2.2.2.2.2 (Or.inl rfl) (by rw [x10]; exact h10))
      have hM6 : CI n (up2 M5 (16 + 7 * w) 5 1) := hM5.up (tc_w hwk (by decide))
      refine ok_m ?_
      rw [hM6.nm hw12]
      refine ok_b (e_release hM6 (fun c hc => r5.2.2.2.1.nd hc)) (fun M7 ⟨hM7, hR⟩ => ok_s ⟨rfl, ?_, ?_, ?_⟩)
      · exact Rr_free r5 hM6 (hM4.up (tm_f (by decide))) hw12 ew hR (fr_3 hF)
      · exact RG_c (RG_fr gg hM4 hw12 hF) (fun j => up2_k (by decide)) (fun j => up2_k (by decide))
      · rw [up2_k (by decide), ck_fr hF, x13]
    · exact absurd (by rw [ti_eq, x4, x1]; omega) q
theorem e_gotAll (h : Rr n M N) (hM : CI n M) (hN : MT n N) (hw : w < 12) (hs : (N 4 w).toInt < 10) : F_X4_gotAll M (16 + 7 * w) = some (if (N 5 w).toInt < (N 12 (10 * w + spn N w)).toInt then 0 else 1) := by
  unfold F_X4_gotAll
  have a6 : M (16 + 7 * w) 6 = N 4 w := (h.1 w hw).2.2.1
  have a7 : M (16 + 7 * w) 7 = N 5 w := (h.1 w hw).2.2.2.1
  have hsp := hN.sp (j := w)
  have es : (N 4 w).toNatClampNeg = spn N w := rfl
  have hs10 : spn N w < 10 := by unfold spn; omega
  obtain ⟨rb1, -⟩ := h.2.1 w (spn N w) hw hs10
  rw [a6, a7, e_count (rw_w1 (wok.of hw)), if_pos ⟨hsp.1, by omega⟩, es, show M (16 + 7 * w + 1 + 1) (spn N w) = N 12 (10 * w + spn N w) from rb1, bi_s]
  by_cases q : (N 5 w).toInt < (N 12 (10 * w + spn N w)).toInt
  · rw [if_pos (by rw [ti_lt]; exact q), if_pos q]
  · rw [if_neg (by rw [ti_lt]; exact q), if_neg q]
/-- what a turn leaves on both sides -/
def Tn (n : Nat) (N : Mem) (q : Int32 × Mem) (N2 : Mem) : Prop := CI n q.2 ∧ Rr n q.2 N2 ∧ RG N2 ∧ (N2 0 13 = N 0 13 ∨ N2 0 13 = N 0 13 + 1)
theorem turn_eq (hI : MI n B N) (hB : B ≤ 1000000) (h : Rr n M N) (hg : RG N) (hM : CI n M) (hw : w < n) (hk0 : 0 ≤ (N 0 13).toInt) (hk1 : (N 0 13).toInt ≤ 2147483646) : Ok (F_X5_takeTurn M (16 + 7 * w)) (fun q => ∃ N2, F_X6_does N (nI w) = some (q.1, N2) ∧ DoP (nI w) n N (q.1, N2) ∧ Tn n N q N2) := by
  have h12 := hI.1.1
  have hw12 : w < 12 := by omega
  have hwk := wok.of (i := w) hw12
  have ew : (nI w).toInt = w := ti_nI (by omega)
  have ewl : (nI w).toNatClampNeg = w := nI_cl (by omega)
  obtain ⟨q', eq', hq'⟩ := m_does (p1 := nI w) hI hB
  rw [eq']
  have hq0 := hq'
  have a5 : M (16 + 7 * w) 5 = N 3 w := (h.1 w hw12).2.1
  unfold F_X5_takeTurn
  rw [a5]
  unfold DoP at hq'
  rw [ewl] at hq'
  rcases hq' with ⟨rfl, hz⟩ | ⟨-, hs3, N1, hN1e, hq⟩
  · have hz3 : N 3 w ≠ 0 := by
      rcases hz with z | z | z
      · omega
      · omega
      · exact z
    exact ok_i (fun a => absurd a hz3) (fun _ => ok_s ⟨N, rfl, hq0, hM, h, hg, Or.inl rfl⟩)
  · refine ok_i (fun _ => ok_m ?_) (fun a => absurd hs3 a)
    have hI1 := (mi_7 hI (v := 1) (j := w)).1
    have r1 : Rr n (up2 M (16 + 7 * w) 10 1) (up2 N 7 w 1) := Rr_fld h (Or.inr (Or.inr (Or.inr (Or.inr (Or.inr (Or.inl ⟨rfl, rfl⟩)))))) (RF_7 h.2.2.2.2.2 (by rw [ti_n1]; omega))
    have hM1 : CI n (up2 M (16 + 7 * w) 10 1) := hM.up (tc_w hwk (by decide))
    have g1 : RG (up2 N 7 w 1) := RG_c hg (fun j => up2_k (by decide)) (fun j => up2_k (by decide))
    have k1 : up2 N 7 w 1 0 13 = N 0 13 := up2_k (by decide)
    have t3 : (up2 N 7 w 1 3 w).toInt = 0 := by rw [up2_k (by decide), hs3]; exact ti_n0
    have t7 : (up2 N 7 w 1 7 w).toInt ≠ 0 := by rw [up2_s, ti_n1]; omega
    rw [← hN1e] at hI1 r1 g1 k1 t3 t7
    generalize up2 M (16 + 7 * w) 10 1 = M1 at r1 hM1 ⊢
    have hst := hI1.2.1.1 w hw t3
    have hs1 := (hI1.1.st (j := w)).1
    have hs10 : (N1 4 w).toInt < 10 := by omega
    rw [e_gotAll r1 hM1 hI1.1 hw12 hs10, bi_s]
    rw [dk_n hI1.1 hw12 hs10] at hq
    have lat : ∀ (q : Int32 × Mem) (N2 : Mem), CI n q.2 → Rr n q.2 N2 → RG N2 → (N2 0 13 = N1 0 13 ∨ N2 0 13 = N1 0 13 + 1) → q' = (q.1, up2 N2 6 w q.1) → Ok (bm (up2 q.2 (16 + 7 * w) 11 q.1) fun M_9 => some ((M_9 (16 + 7 * w) 11), M_9)) (fun q => ∃ N2, some q' = some (q.1, N2) ∧ DoP (nI w) n N (q.1, N2) ∧ Tn n N q N2) := by
      intro q N2 z1 z2 z3 z4 z5
      refine ok_m ?_
      rw [up2_s]
      subst z5
      refine ok_s ⟨_, rfl, hq0, z1.up (tc_w hwk (by decide)), Rr_fld z2 (Or.inr (Or.inr (Or.inr (Or.inr (Or.inr (Or.inr (Or.inl ⟨rfl, rfl⟩))))))) (RF_o z2.2.2.2.2.2 (by decide)), RG_c z3 (fun j => up2_k (by decide)) (fun j => up2_k (by decide)), ?_⟩
      rw [up2_k (by decide), ← k1]
      exact z4
    rcases hq with ⟨c, d, r, N2, e, rfl⟩ | ⟨c, d, r, N2, e, rfl⟩ | ⟨c, d, N2, hu, rfl⟩ | ⟨c, d, N2, ha, rfl⟩
    · rw [if_pos c, if_pos rfl]
      refine ok_b (next_eq r1 g1 hM1 hI1.1 hw hs10 c t3 t7 (by rw [k1]; exact hk0) (by rw [k1]; exact hk1)) (fun q ⟨y1, N3, y2, y3, y4, y5⟩ => ?_)
      rw [if_pos d, e] at y2
      have y6 := Option.some.inj y2
      have y7 : r = q.1 := congrArg Prod.fst y6
      have y8 : N2 = N3 := congrArg Prod.snd y6
      subst y7 y8
      exact lat q N2 y1 y3 y4 y5 rfl
    · rw [if_pos c, if_pos rfl]
      refine ok_b (next_eq r1 g1 hM1 hI1.1 hw hs10 c t3 t7 (by rw [k1]; exact hk0) (by rw [k1]; exact hk1)) (fun q ⟨y1, N3, y2, y3, y4, y5⟩ => ?_)
      rw [if_neg (by omega), e] at y2
      have y6 := Option.some.inj y2
      have y7 : r = q.1 := congrArg Prod.fst y6
      have y8 : N2 = N3 := congrArg Prod.snd y6
      subst y7 y8
      exact lat q N2 y1 y3 y4 y5 rfl
    · rw [if_neg (show ¬ (N1 5 w).toInt < (N1 12 (10 * w + spn N1 w)).toInt by omega), if_neg (show ¬ (1 : Int32) = 0 by decide)]
      have a6 : M1 (16 + 7 * w) 6 = N1 4 w := (r1.1 w hw12).2.2.1
      have a4 : M1 (16 + 7 * w) 4 = N1 2 w := ((r1.1 w hw12).1 hw).2
      have fl : Ok (F_X5_actOrFail M1 (16 + 7 * w)) (fun q => CI n q.2 ∧ q.1 = 6 ∧ Rr n q.2 N2) := by
        unfold F_X5_actOrFail
        rw [a6, a4]
        refine ok_i (fun _ => ok_b (e_undo hM1 hw12 (fun c hc => r1.2.2.2.1.nd hc)) (fun M2 ⟨hM2, hU⟩ => ok_s ⟨hM2, rfl, Rr_undo r1 hM1 hI1.1 hw12 ew hU hu⟩)) (fun q => absurd d.symm q)
      refine ok_b fl (fun q ⟨y1, y2, y3⟩ => ?_)
      rw [← y2] at lat ⊢
      exact lat q N2 y1 y3 (RG_un g1 hw12 hu) (Or.inl (ck_un hu)) rfl
    · rw [if_neg (show ¬ (N1 5 w).toInt < (N1 12 (10 * w + spn N1 w)).toInt by omega), if_neg (show ¬ (1 : Int32) = 0 by decide)]
      have z10 : (N1 10 w).toInt = 0 := by
        by_cases q : (N1 10 w).toInt = 0
        · exact q
        · have := (r1.2.2.2.2.2 w hw12 q).2.2.2.1
          omega
      refine ok_b (act_eq r1 g1 hM1 hI1.1 hw z10 hs10 hst d ha) (fun q ⟨y1, y2, y3, y4, y5⟩ => ?_)
      rw [← y2] at lat ⊢
      exact lat q N2 y1 y3 y4 (Or.inl y5) rfl
end VX
