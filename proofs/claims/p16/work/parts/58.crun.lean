section WX
variable {n : Nat} {M M' N N' : Mem} {w c k : Nat} {u v p1 p2 x : Int32} {B C : Int}
/-- both sides end, with P between their results -/
def Ok2 {α β : Type} (x : Option α) (y : Option β) (P : α → β → Prop) : Prop := ∃ a b, x = some a ∧ y = some b ∧ P a b
theorem ok2_s {α β : Type} {a : α} {b : β} {P : α → β → Prop} (h : P a b) : Ok2 (some a) (some b) P := ⟨a, b, rfl, rfl, h⟩
theorem Rr_0 (h : Rr n M N) : Rr n M (up2 N 0 0 x) := by
  obtain ⟨a, b, c, d, e, f⟩ := h
  refine ⟨fun w hw => ?_, RB_c b (fun _ _ _ _ => rfl) (fun k j hk => up2_k (by omega)), RC_c c (fun _ _ _ => rfl) (fun k j hk => up2_k (by omega)) (up2_j (by decide)) (up2_j (by decide)), RD_c d (fun _ _ _ => rfl) (fun k j hk => up2_k (by omega)), RE_c e (fun _ => rfl) (fun j => up2_k (by decide)) (fun j => up2_k (by decide)) (cL_c (up2_j (by decide)) (fun k j hk => up2_k (by omega))), RF_c f (fun j => up2_k (by decide)) (fun j => up2_k (by decide)) (fun j => up2_k (by decide)) (fun j => up2_k (by decide)) (fun j => up2_k (by decide)) (fun j => up2_k (by decide)) (fun j => up2_k (by decide)) (fun j => up2_k (by decide)) (up2_j (by decide))⟩
  have e2 : ∀ z j, z ≠ 0 → up2 N 0 0 x z j = N z j := fun z j hz => up2_k hz
  rw [e2 1 _ (by decide), e2 2 _ (by decide), e2 3 _ (by decide), e2 4 _ (by decide), e2 5 _ (by decide), e2 6 _ (by decide), e2 7 _ (by decide), e2 8 _ (by decide), e2 9 _ (by decide)]
  exact a w hw
/-- the whole relation -/
def Rs (n : Nat) (B C : Int) (M N : Mem) : Prop := MI n B N ∧ CI n M ∧ Rr n M N ∧ RG N ∧ 0 ≤ (N 0 13).toInt ∧ (N 0 13).toInt ≤ C
theorem Rs_0 (h : Rs n B C M N) : Rs n B C M (up2 N 0 0 x) := by
  obtain ⟨a, b, c, d, e, f⟩ := h
  exact ⟨mi_0 a, b, Rr_0 c, RG_c d (fun j => up2_k (by decide)) (fun j => up2_k (by decide)), by rw [up2_j (by decide)]; exact e, by rw [up2_j (by decide)]; exact f⟩
theorem Rs.mono (h : Rs n B C M N) {B' C' : Int} (hb : B ≤ B') (hc : C ≤ C') : Rs n B' C' M N := by
  obtain ⟨a, b, c, d, e, f⟩ := h
  exact ⟨a.mono hb, b, c, d, e, by omega⟩
theorem e_isWaiting : F_X5_isWaiting M v = some (if v = 3 ∨ v = 4 then 1 else 0) := by
  unfold F_X5_isWaiting
  by_cases a : v = 3
  · rw [if_pos a, if_pos (Or.inl a)]
  · rw [if_neg a]
    by_cases b : v = 4
    · rw [if_pos b, if_pos (Or.inr b)]
    · rw [if_neg b, if_neg (by rintro (z | z) <;> contradiction)]
/-- what a turn adds -/
def ru1 (r : Int32) : Int32 := if r = 2 then 1 else 0
def ru2 (b r : Int32) : Int32 := if b = 0 then (if r = 0 ∨ r = 3 ∨ r = 4 then 0 else 1) else 1
theorem run_in (hB : B ≤ 1000000) (hC : C ≤ 2147483646) {K : Mem → Int32 → Int32 → Int32 → Option (Int32 × Mem)} {K' : Mem → Int32 → Int32 → Int32 → Option (Int32 × Mem)} {P : Int32 × Mem → Int32 × Mem → Prop} (v3 : Int32) (X : Int) (hK : ∀ M N a b c, Rs n B C M N → Fi n N + La N + (if b = 0 then 0 else 1) ≤ X → Ok2 (K M a b c) (K' N a b c) P) : ∀ (f f' : Nat) (M N : Mem) (a b v : Int32), Rs n B (C - (12 - v.toInt)) M N → Fi n N + La N + (if b = 0 then 0 else 1) ≤ X → 0 ≤ v.toInt → v.toInt ≤ n → 12 - v.toInt < f → 12 - v.toInt < f' → Ok2 (L_X5_run_21 K v3 f M a b v) (L_X6_run_17 K' f' N a b v) P := by
  intro f
  induction f with
  | zero =>
    intro f' M N a b v hR _ h0 h1 h2 _
    have := hR.1.1.1
    omega
  | succ f ih =>
    intro f' M N a b v hR hX h0 h1 h2 h3
    have h12 := hR.1.1.1
    cases f' with
    | zero => omega
    | succ f' =>
      rw [L_X5_run_21, L_X6_run_17]
      by_cases hv : (n : Int) ≤ v.toInt
      · rw [if_pos (by rw [ti_le, hR.2.1.cnt]; exact hv), if_pos (by rw [ti_le, hR.1.1.wk]; exact hv)]
        exact hK _ _ _ _ _ (hR.mono (Int.le_refl _) (by omega)) hX
      · rw [if_neg (by rw [ti_le, hR.2.1.cnt]; exact hv), if_neg (by rw [ti_le, hR.1.1.wk]; exact hv), ti_in h0 (by omega), gd_t]
        obtain ⟨w, hw⟩ : ∃ w : Nat, v.toInt = w := ⟨v.toInt.toNat, by omega⟩
        have hvw : v = nI w := of_nI hw
        have hvl : v.toNatClampNeg = w := cl_of hw
        have e1 := ti_inc (a := v) (by omega)
        obtain ⟨rI, rM, rR, rG, rk0, rk1⟩ := hR
        obtain ⟨q, eq, N2, eq2, hdo, t1, t2, t3, t4⟩ := turn_eq (w := w) rI hB rR rG rM (by omega) rk0 (by omega)
        obtain ⟨mI, mF⟩ := m_doI rI hB hdo
        have mF : Fi n N2 + La N2 + on1 q.1 ≤ Fi n N + La N := mF
        rw [hvl, eq, bi_s]
        have eq3 : F_X6_does N v = some (q.1, N2) := by rw [hvw]; exact eq2
        rw [eq3, bi_s]
        have ck : 0 ≤ (N2 0 13).toInt ∧ (N2 0 13).toInt ≤ (N 0 13).toInt + 1 := by
          rcases t4 with z | z
          · rw [z]; omega
          · rw [z, ti_inc (by omega)]; omega
        have go : ∀ a' b' : Int32, Fi n N2 + La N2 + (if b' = 0 then 0 else 1) ≤ X → Ok2 (L_X5_run_21 K v3 f q.2 a' b' (v + 1)) (L_X6_run_17 K' f' N2 a' b' (v + 1)) P := fun a' b' hb => ih f' _ _ _ _ _ ⟨mI, t1, t2, t3, ck.1, by omega⟩ hb (by omega) (by omega) (by omega) (by omega)
        have fin := go (a + ru1 q.1) (ru2 b q.1) (by
          unfold ru2
          unfold on1 at mF
          by_cases hb : b = 0
          · rw [if_pos hb]
            rw [if_pos hb] at hX
            by_cases hr : q.1 = 0 ∨ q.1 = 3 ∨ q.1 = 4
            · rw [if_pos hr, if_pos rfl]
              rw [if_pos hr] at mF
              omega
            · rw [if_neg hr, if_neg (by decide)]
              rw [if_neg hr] at mF
              omega
          · rw [if_neg hb, if_neg (by decide)]
            rw [if_neg hb] at hX
            split at mF <;> omega)
        generalize q.1 = r at fin ⊢
        rw [e_isWaiting, bi_s]
        unfold ru1 ru2 at fin
        by_cases hb : b = 0
        · simp only [hb, if_true] at fin ⊢
          by_cases h0 : r = 0
          · subst h0
            simpa using fin
          · by_cases h2 : r = 2
            · subst h2
              simpa using fin
            · by_cases h3 : r = 3
              · subst h3
                simpa using fin
              · by_cases h4 : r = 4
                · subst h4
                  simpa using fin
                · simpa [h0, h2, h3, h4] using fin
        · simp only [hb, if_false] at fin ⊢
          by_cases h2 : r = 2
          · subst h2
            simpa using fin
          · simpa [h2] using fin
theorem run_out (hB : B ≤ 1000000) (hC : C ≤ 2147483646) : ∀ (f f' : Nat) (M N : Mem) (a b v : Int32), Rs n B C M N → (N 0 13).toInt + 12 * (if b = 0 then 0 else Fi n N + La N + 1) ≤ C → v.toInt + (if b = 0 then 0 else Fi n N + La N + 1) < 1000000 → 0 ≤ v.toInt → (if b = 0 then 0 else Fi n N + La N + 1) < (f : Int) → (if b = 0 then 0 else Fi n N + La N + 1) < (f' : Int) → Ok2 (L_X5_run_6 (fun M_1 v1_6 v2_6 v3_6 => some (v1_6, M_1)) f M a b v) (L_X6_run_9 (fun M_2 v1_9 v2_9 => some (v1_9, M_2)) f' N a b) (fun q q' => q.1 = q'.1 ∧ Rs n B C q.2 q'.2) := by
  intro f
  induction f with
  | zero =>
    intro f' M N a b v hR h1 h2 h3 h4 h5
    exfalso
    have := hR.1.Fi0
    have := hR.1.La0
    split at h4 <;> omega
  | succ f ih =>
    intro f' M N a b v hR h1 h2 h3 h4 h5
    have hF := hR.1.Fi0
    have hL := hR.1.La0
    cases f' with
    | zero => exfalso; split at h5 <;> omega
    | succ f' =>
      rw [L_X5_run_6, L_X6_run_9]
      by_cases hb : b = 0
      · rw [if_pos hb, if_pos hb]
        exact ok2_s ⟨rfl, hR⟩
      · rw [if_neg hb] at h1 h2 h4 h5
        rw [if_neg hb, if_neg (by rw [ti_le, ti_mm]; omega), if_neg hb]
        have e1 := ti_inc (a := v) (by omega)
        have hR2 : Rs n B ((N 0 13).toInt + 12 - (12 - (0 : Int32).toInt)) M N := by
          obtain ⟨a, b, c, d, e, f⟩ := hR
          exact ⟨a, b, c, d, e, by rw [ti_n0]; omega⟩
        refine run_in (C := (N 0 13).toInt + 12) hB (by omega) v (Fi n N + La N) (fun M2 N2 a2 b2 c2 hR3 hX => ?_) 4000 4000 M N a 0 0 hR2 (by rw [if_pos rfl]; omega) (by rw [ti_n0]; omega) (by rw [ti_n0]; omega) (by rw [ti_n0]; omega) (by rw [ti_n0]; omega)
        have hc3 := hR3.2.2.2.2.2
        have hF2 := hR3.1.Fi0
        have hL2 := hR3.1.La0
        refine ih f' M2 N2 a2 b2 (v + 1) (hR3.mono (Int.le_refl _) (by omega)) ?_ ?_ (by omega) ?_ ?_
        all_goals (by_cases hb2 : b2 = 0 <;> simp only [hb2, if_true, if_false] at hX ⊢ <;> omega)
theorem Rs_run (hB : B ≤ 51200) (hC : C ≤ 2147483646) (hR : Rs n B (C - 628824) M N) : Ok2 (F_X5_run M) (F_X6_run N) (fun q q' => q.1 = q'.1 ∧ Rs n B C q.2 q'.2) := by
  unfold F_X5_run F_X6_run
  rw [bm_d]
  have h0 := Rs_0 (x := 0) hR
  generalize up2 N 0 0 0 = N0 at h0 ⊢
  have hF := h0.1.FiM
  have hL := h0.1.2.2
  have hk := h0.2.2.2.2.2
  refine run_out (by omega) hC 1000002 100000 M N0 0 1 0 (h0.mono (Int.le_refl _) (by omega)) ?_ ?_ (by rw [ti_n0]; omega) ?_ ?_
  all_goals (rw [if_neg (by decide)]; (try rw [ti_n0]); omega)
end WX
