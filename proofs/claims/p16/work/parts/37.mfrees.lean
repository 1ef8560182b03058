section MF
variable {n : Nat} {N : Mem} {p1 p2 : Int32}
theorem m_fr1 {P : Mem → Prop} {K : Mem → Int32 → Option Mem} {N0 : Mem} (hK : ∀ N b, MT n N → (∀ k j, k ≠ 16 → N k j = N0 k j) → (∀ j, N 16 j = if j < 10 ∧ N0 16 j = p1 + 1 then 0 else N0 16 j) → Ok (K N b) P) : ∀ (f : Nat) (N : Mem) (b : Int32), MT n N → (∀ k j, k ≠ 16 → N k j = N0 k j) → (∀ j, N 16 j = if (j : Int) < b.toInt ∧ N0 16 j = p1 + 1 then 0 else N0 16 j) → 0 ≤ b.toInt → b.toInt ≤ 10 → 10 - b.toInt < f → Ok (L_X6_frees_2 K p1 f N b) P := by
  intro f
  induction f with
  | zero => intro N b hN h1 h2 h3 h4 h5; omega
  | succ f ih =>
    intro N b hN h1 h2 h3 h4 h5
    rw [L_X6_frees_2]
    refine ok_i (fun c => ?_) (fun c => ?_)
    · rw [ti_le, ti_n10] at c
      refine hK _ _ hN h1 (fun j => ?_)
      rw [h2 j]
      have e : ((j : Int) < b.toInt) ↔ j < 10 := by omega
      simp only [e]
    · rw [ti_le, ti_n10] at c
      have e1 := ti_inc (a := b) (by omega)
      have g : inb b 10 = true := ti_in h3 (by omega)
      have hb := h2 b.toNatClampNeg
      rw [if_neg (by rw [ti_cl]; omega)] at hb
      refine ok_g g (ok_i (fun d => ok_g g (ok_m ?_)) (fun d => ok_g g (ok_g g (ok_m ?_))))
      · refine ih _ _ (hN.up (tm_ow (by rw [ti_n0]; omega))) (fun k j hk => by rw [up2_k hk]; exact h1 k j hk) (fun j => ?_) (by omega) (by omega) (by omega)
        by_cases hj : j = b.toNatClampNeg
        · subst hj
          rw [hb] at d
          rw [up2_s, if_pos ⟨by rw [ti_cl]; omega, d⟩]
        · rw [up2_j hj, h2 j]
          rw [ti_cl] at hj
          have e : ((j : Int) < b.toInt) ↔ ((j : Int) < (b + 1).toInt) := by omega
          simp only [e]
      · refine ih _ _ (hN.up (tm_ow hN.ow)) (fun k j hk => by rw [up2_k hk]; exact h1 k j hk) (fun j => ?_) (by omega) (by omega) (by omega)
        by_cases hj : j = b.toNatClampNeg
        · subst hj
          rw [hb] at d
          rw [up2_s, hb, if_neg (fun q => d q.2)]
        · rw [up2_j hj, h2 j]
          rw [ti_cl] at hj
          have e : ((j : Int) < b.toInt) ↔ ((j : Int) < (b + 1).toInt) := by omega
          simp only [e]
theorem m_frees (hN : MT n N) (h0 : 0 ≤ p1.toInt) (h1 : p1.toInt < 12) : Ok (F_X6_frees N p1) (FrP p1 n N) := by
  unfold F_X6_frees
  refine m_fr1 (N0 := N) (n := n) (fun N1 b hN1 a1 a2 => ?_) 4000 N 0 hN (fun _ _ _ => rfl) (fun j => ?_) (by rw [ti_n0]; omega) (by rw [ti_n0]; omega) (by rw [ti_n0]; omega)
  · refine ok_g (ti_in h0 (by rw [show lm 10 = 12 from rfl]; omega)) (ok_m ?_)
    have hN2 : MT n (up2 N1 10 p1.toNatClampNeg 0) := hN1.up (tm_wf (by rw [ti_n0]; omega))
    refine m_fr2 (N0 := up2 N1 10 p1.toNatClampNeg 0) (n := n) (fun N3 a b hN3 b1 b2 b3 b4 => ?_) 4000 _ 0 0 hN2 (fun _ _ _ _ _ => rfl) (fun _ _ _ => rfl) (by rw [ti_n0]; omega) (by omega) (by rw [ti_n0]; exact hN2.ch.1) (by rw [ti_n0]; rfl) (by rw [ti_n0]; omega)
    have hc := hN2.ch
    refine ok_m (ok_s ⟨hN3.up (tm_ch (by omega)), fun k j k16 k10 k20 k21 k22 kz => ?_, fun j => ?_, fun j => ?_, ?_⟩)
    · rw [up2_e, if_neg (by omega), b1 k j k20 k21 k22, up2_k k10, a1 k j k16]
    · rw [up2_k (by decide), b1 16 j (by decide) (by decide) (by decide), up2_k (by decide), a2 j]
    · rw [up2_k (by decide), b1 10 j (by decide) (by decide) (by decide)]
      by_cases hj : j = p1.toNatClampNeg
      · rw [if_pos hj, hj, up2_s]
      · rw [if_neg hj, up2_j hj, a1 10 j (by decide)]
    · have e1 : cL (up2 N3 0 23 a) = cl N3 a.toInt.toNat := by
        unfold cL
        rw [up2_s]
        exact cl_c (fun k _ => ⟨up2_k (by decide), up2_k (by decide), up2_k (by decide)⟩)
      have e2 : cL (up2 N1 10 p1.toNatClampNeg 0) = cL N := by
        unfold cL
        rw [up2_k (by decide), a1 0 23 (by decide)]
        exact cl_c (fun k _ => ⟨by rw [up2_k (by decide), a1 _ _ (by decide)], by rw [up2_k (by decide), a1 _ _ (by decide)], by rw [up2_k (by decide), a1 _ _ (by decide)]⟩)
      rw [e1, b4, e2]
  · rw [ti_n0, if_neg (by omega)]
/-- the values, with w's changes taken back, the latest first -/
def ru (w : Int32) (l : List Ce) (g : Nat → Int32) : Nat → Int32 := l.foldr (fun e g => if e.1 = w then upd g e.2.1.toNatClampNeg e.2.2 else g) g
theorem m_ud {P : Mem → Prop} {K : Mem → Int32 → Option Mem} {N0 : Mem} (hK : ∀ N b, MT n N → (∀ k j, k ≠ 17 → N k j = N0 k j) → (N 17 = ru p1 (cL N0) (N0 17)) → Ok (K N b) P) : ∀ (f : Nat) (N : Mem) (b : Int32), MT n N → (∀ k j, k ≠ 17 → N k j = N0 k j) → (∃ t, cL N0 = cl N0 (b.toInt + 1).toNat ++ t ∧ N 17 = ru p1 t (N0 17)) → -1 ≤ b.toInt → b.toInt < 1200 → b.toInt + 1 < f → Ok (L_X6_undo_7 K p1 p2 f N b) P := by
  intro f
  induction f with
  | zero => intro N b hN h1 h2 h3 h4 h5; omega
  | succ f ih =>
    intro N b hN h1 h2 h3 h4 h5
    obtain ⟨t, t1, t2⟩ := h2
    rw [L_X6_undo_7]
    refine ok_i (fun c => ?_) (fun c => ?_)
    · rw [ti_lt, ti_n0] at c
      refine hK _ _ hN h1 ?_
      rw [t2, t1, show (b.toInt + 1).toNat = 0 by omega]
      rfl
    · rw [ti_lt, ti_n0] at c
      have e1 := ti_dm (a := b) (by omega)
      have g : inb b 1200 = true := ti_in (by omega) (by omega)
      have es : (b.toInt + 1).toNat = ((b + -1).toInt + 1).toNat + 1 := by omega
      have ei : ((b + -1).toInt + 1).toNat = b.toNatClampNeg := by rw [ti_cl]; omega
      rw [es, cl_s, List.append_assoc, ei] at t1
      refine ok_g g (ok_i (fun d => ok_g g (ok_g g (ok_g ?_ (ok_m ?_)))) (fun d => ?_))
      · have := hN.cd (j := b.toNatClampNeg)
        exact ti_in this.1 (by rw [show lm 17 = 10 from rfl]; omega)
      · refine ih _ _ (hN.up (tm_f (by decide))) (fun k j hk => by rw [up2_k hk]; exact h1 k j hk) ⟨_, by rw [ei]; exact t1, ?_⟩ (by omega) (by omega) (by omega)
        rw [← h1 20 _ (by decide), ← h1 21 _ (by decide), ← h1 22 _ (by decide)]
        funext j
        show _ = ru p1 _ (N0 17) j
        unfold ru
        rw [List.foldr_append]
        simp only [List.foldr_cons, List.foldr_nil]
        rw [if_pos d]
        rw [show List.foldr (fun (e : Ce) g => if e.1 = p1 then upd g e.2.1.toNatClampNeg e.2.2 else g) (N0 17) t = N 17 from t2.symm]
        unfold upd
        rw [up2_e]
        simp
      · refine ih _ _ hN h1 ⟨_, by rw [ei]; exact t1, ?_⟩ (by omega) (by omega) (by omega)
        rw [← h1 20 _ (by decide)]
        unfold ru
        rw [List.foldr_append]
        simp only [List.foldr_cons, List.foldr_nil]
        rw [if_neg d]
        exact t2
/-- what undo leaves -/
def UdP (w to : Int32) (n : Nat) (N N' : Mem) : Prop := ∃ N1 N2, MT n N1 ∧ (∀ k j, k ≠ 17 → N1 k j = N k j) ∧ (N1 17 = ru w (cL N) (N 17)) ∧ FrP w n N1 N2 ∧ N' = up2 N2 3 w.toNatClampNeg to
theorem m_undo (hN : MT n N) (h0 : 0 ≤ p1.toInt) (h1 : p1.toInt < 12) : Ok (F_X6_undo N p1 p2) (UdP p1 p2 n N) := by
  unfold F_X6_undo
  have hc := hN.ch
  have e := ti_dec (a := N 0 23) (by omega)
  refine m_ud (N0 := N) (n := n) (fun N1 b hN1 a1 a2 => ?_) 4000 N _ hN (fun _ _ _ => rfl) ⟨[], ?_, rfl⟩ (by omega) (by omega) (by omega)
  · exact ok_b (m_frees hN1 h0 h1) (fun N2 h2 => ok_g (ti_in h0 (by rw [show lm 3 = 12 from rfl]; omega)) (ok_m (ok_s ⟨N1, N2, hN1, a1, a2, h2, rfl⟩)))
  · rw [e, List.append_nil]
    unfold cL
    congr 1
    omega
end MF
