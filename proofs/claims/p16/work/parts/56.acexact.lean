/-! the class's methods, exactly -/
section CX
variable {n : Nat} {M : Mem} {r R m c : Nat} {p1 p2 : Int32}
theorem ok_e {α : Type} {x : Option α} {a : α} {P : α → Prop} (h : x = some a) (hp : P a) : Ok x P := ⟨a, h, hp⟩
theorem ok_and {α : Type} {x : Option α} {P Q : α → Prop} (h : Ok x P) (g : Ok x Q) : Ok x (fun a => P a ∧ Q a) := by
  obtain ⟨a, e, h⟩ := h
  obtain ⟨b, e', g⟩ := g
  rw [e] at e'
  cases Option.some.inj e'
  exact ⟨a, e, h, g⟩
theorem cl_nat {a : Int32} (h : 0 ≤ a.toInt) : (a.toNatClampNeg : Int) = a.toInt := by rw [ti_cl]; omega
theorem cl_of {a : Int32} {k : Nat} (h : a.toInt = (k : Int)) : a.toNatClampNeg = k := by rw [ti_cl]; omega
theorem nI_cl {k : Nat} (h : k < 2147483648) : (nI k).toNatClampNeg = k := cl_of (ti_nI h)
theorem of_nI {a : Int32} {k : Nat} (h : a.toInt = (k : Int)) : a = nI k := by
  have := ti_hi a
  rw [ti_eq, ti_nI (by omega), h]
theorem rw_ix (hr : RW r R m) (hM : CI n M) (h1 : 0 ≤ p1.toInt) (h2 : p1.toInt < m) (i : Int32) (h3 : 0 ≤ i.toInt) (h4 : i.toInt < R) : ((p1 * (M r 0)) + i).toNatClampNeg = p1.toNatClampNeg * R + i.toNatClampNeg := by
  obtain ⟨a, b, c⟩ := rw_at hr hM h1 h2 i h3 h4
  rw [ti_cl, a, ← cl_nat h1, ← cl_nat h3, ← Int.natCast_mul, ← Int.natCast_add, Int.toNat_natCast]
theorem rw_m (hr : RW r R m) : m ≤ 300 ∧ R ≤ 300 := by
  obtain ⟨e1, e2, hR, hm, hb, hT⟩ := hr
  exact ⟨Nat.le_trans (Nat.le_mul_of_pos_right m hR) hb, Nat.le_trans (Nat.le_mul_of_pos_left R hm) hb⟩
theorem rw_c (hr : RW r R m) (hM : CI n M) (j : Nat) : 0 ≤ (M (r + 1) j).toInt ∧ (M (r + 1) j).toInt ≤ R := ((hr.2.2.2.2.2 n).2.1 _ _).mp (hM.2 _ _)
theorem e_count (hr : RW r R m) : F_X2_count M r p1 = some (if 0 ≤ p1.toInt ∧ p1.toInt < m then M (r + 1) p1.toNatClampNeg else 0) := by
  have hm := (rw_m hr).1
  unfold F_X2_count
  rw [hr.1]
  by_cases h0 : 0 ≤ p1.toInt
  · rw [if_neg (by rw [ti_lt, ti_n0]; omega)]
    by_cases h1 : p1.toInt < m
    · rw [if_neg (by rw [ti_le, ti_nI (by omega)]; omega), if_pos ⟨h0, h1⟩, ti_in h0 h1]
      rfl
    · rw [if_pos (by rw [ti_le, ti_nI (by omega)]; omega), if_neg (by omega)]
  · rw [if_pos (by rw [ti_lt, ti_n0]; omega), if_neg (by omega)]
theorem e_item (hr : RW r R m) (hM : CI n M) : F_X2_item M r p1 p2 = some (if (0 ≤ p1.toInt ∧ p1.toInt < m) ∧ 0 ≤ p2.toInt ∧ p2.toInt < (M (r + 1) p1.toNatClampNeg).toInt then M (r + 2) (p1.toNatClampNeg * R + p2.toNatClampNeg) else -1) := by
  unfold F_X2_item
  by_cases h0 : 0 ≤ p2.toInt
  · rw [if_neg (by rw [ti_lt, ti_n0]; omega), e_count hr]
    show (if _ then _ else _) = _
    by_cases h1 : 0 ≤ p1.toInt ∧ p1.toInt < m
    · rw [if_pos h1]
      have hc := rw_c hr hM p1.toNatClampNeg
      by_cases h2 : p2.toInt < (M (r + 1) p1.toNatClampNeg).toInt
      · obtain ⟨a, b, b0⟩ := rw_at hr hM h1.1 h1.2 p2 h0 (by omega)
        rw [if_neg (by rw [ti_le]; omega), if_pos ⟨h1, h0, h2⟩, ti_in (by omega) (by rw [hr.2.1]; push_cast; omega), rw_ix hr hM h1.1 h1.2 p2 h0 (by omega)]
        rfl
      · rw [if_pos (by rw [ti_le]; omega), if_neg (by omega)]
    · rw [if_neg h1, if_pos (by rw [ti_le, ti_n0]; exact h0), if_neg (fun q => h1 q.1)]
  · rw [if_pos (by rw [ti_lt, ti_n0]; omega), if_neg (by omega)]
theorem e_add (hr : RW r R m) (hM : CI n M) (h1 : 0 ≤ p1.toInt) (h2 : p1.toInt < m) : F_X2_add M r p1 p2 = some (if (M (r + 1) p1.toNatClampNeg).toInt < R then (M (r + 1) p1.toNatClampNeg + 1, up2 (up2 M (r + 2) (p1.toNatClampNeg * R + (M (r + 1) p1.toNatClampNeg).toNatClampNeg) p2) (r + 1) p1.toNatClampNeg (M (r + 1) p1.toNatClampNeg + 1)) else (-4, M)) := by
  have hm := (rw_m hr).1
  have hc := rw_c hr hM p1.toNatClampNeg
  have er := (hr.2.2.2.2.2 n).1 _ (hM.2 r 0)
  unfold F_X2_add
  rw [hr.1]
  have g : inb p1 m = true := ti_in h1 h2
  rw [if_neg (by rw [ti_lt, ti_n0]; omega), if_neg (by rw [ti_le, ti_nI (by omega)]; omega), g]
  show (if _ then _ else _) = _
  by_cases h3 : (M (r + 1) p1.toNatClampNeg).toInt < R
  · obtain ⟨a, b, b0⟩ := rw_at hr hM h1 h2 (M (r + 1) p1.toNatClampNeg) hc.1 h3
    rw [if_pos (by rw [ti_lt, er]; exact h3), if_pos h3, ti_in (by omega) (by rw [hr.2.1]; push_cast; omega), rw_ix hr hM h1 h2 _ hc.1 h3]
    show some (up2 (up2 M (r + 2) _ p2) (r + 1) _ (up2 M (r + 2) _ p2 (r + 1) _ + 1) (r + 1) _, up2 (up2 M (r + 2) _ p2) (r + 1) _ (up2 M (r + 2) _ p2 (r + 1) _ + 1)) = _
    rw [up2_s, up2_k (show r + 1 ≠ r + 2 by omega)]
  · rw [if_neg (by rw [ti_lt, er]; exact h3), if_neg h3]
/-- a line -/
def rl (M : Mem) (c : Nat) : List Int32 := (List.range (M 7 c).toInt.toNat).map (fun i => M 8 (c * 12 + i))
theorem rl_c {M' : Mem} (h7 : M' 7 c = M 7 c) (h8 : ∀ i, i < (M 7 c).toInt.toNat → M' 8 (c * 12 + i) = M 8 (c * 12 + i)) : rl M' c = rl M c := by
  unfold rl
  rw [h7]
  apply List.map_congr_left
  intro i hi
  exact h8 i (List.mem_range.mp hi)
theorem rl_mem {v : Int32} : v ∈ rl M c ↔ ∃ i, i < (M 7 c).toInt.toNat ∧ M 8 (c * 12 + i) = v := by
  unfold rl
  rw [List.mem_map]
  constructor
  · rintro ⟨i, hi, e⟩
    exact ⟨i, List.mem_range.mp hi, e⟩
  · rintro ⟨i, hi, e⟩
    exact ⟨i, List.mem_range.mpr hi, e⟩
theorem rl_len : (rl M c).length = (M 7 c).toInt.toNat := by simp [rl]
theorem CI.l7 (h : CI n M) (j : Nat) : 0 ≤ (M 7 j).toInt ∧ (M 7 j).toInt ≤ 12 := (h.2 7 j).2.2.2.1 rfl
theorem rg_split {α : Type} (f : Nat → α) (a b : Nat) : (List.range (a + b)).map f = (List.range a).map f ++ (List.range b).map (fun j => f (a + j)) := by
  induction b with
  | zero => simp
  | succ b ih =>
    rw [show a + (b + 1) = (a + b) + 1 by omega, List.range_succ, List.map_append, ih, List.range_succ, List.map_append, ← List.append_assoc]
    rfl
theorem e_placeOf (hM : CI n M) (hp : p1.toInt = (c : Int)) (hc : c < 10) : Ok (F_X2_placeOf M 6 p1 p2) (fun q => (q = -1 ∧ p2 ∉ rl M c) ∨ ∃ i, q = nI i ∧ i < (M 7 c).toInt.toNat ∧ M 8 (c * 12 + i) = p2) := by
  unfold F_X2_placeOf
  have hr := rw_6
  have ec : p1.toNatClampNeg = c := cl_of hp
  rw [e_count hr, if_pos ⟨by omega, by omega⟩, ec, show M (6 + 1) c = M 7 c from rfl]
  have h7 := hM.l7 c
  have key : ∀ (f : Nat) (v : Int32), 0 ≤ v.toInt → v.toInt ≤ (M 7 c).toInt → 12 - v.toInt < f → (∀ j : Nat, (j : Int) < v.toInt → M 8 (c * 12 + j) ≠ p2) → Ok (L_X2_placeOf_9 (fun v4_9 => some (-1)) M (M 7 c) p1 p2 6 f v) (fun q => (q = -1 ∧ p2 ∉ rl M c) ∨ ∃ i, q = nI i ∧ i < (M 7 c).toInt.toNat ∧ M 8 (c * 12 + i) = p2) := by
    intro f
    induction f with
    | zero => intro v h0 h1 h2; omega
    | succ f ih =>
      intro v h0 h1 h2 h3
      rw [L_X2_placeOf_9]
      refine ok_i (fun d => ok_s (Or.inl ⟨rfl, ?_⟩)) (fun d => ?_)
      · rw [ti_le] at d
        rw [rl_mem]
        rintro ⟨i, hi, e⟩
        exact h3 i (by omega) e
      · rw [ti_le] at d
        obtain ⟨a, b, b0⟩ := rw_at hr hM (p1 := p1) (by omega) (by omega) v h0 (by omega)
        have ix := rw_ix hr hM (p1 := p1) (by omega) (by omega) v h0 (by omega)
        rw [ec] at ix
        refine ok_g (ti_in (by omega) (by rw [hr.2.1]; push_cast; omega)) ?_
        rw [ix]
        have ev : v.toNatClampNeg = v.toInt.toNat := ti_cl
        refine ok_i (fun e => ok_s (Or.inr ⟨v.toNatClampNeg, ?_, by omega, e⟩)) (fun e => ?_)
        · exact of_nI (cl_nat h0).symm
        · have e1 := ti_inc (a := v) (by omega)
          refine ih _ (by omega) (by omega) (by omega) (fun j hj => ?_)
          by_cases hjv : (j : Int) < v.toInt
          · exact h3 j hjv
          · rw [show j = v.toNatClampNeg by omega]
            exact e
  exact key 4000 0 (by rw [ti_n0]; omega) (by rw [ti_n0]; omega) (by rw [ti_n0]; omega) (fun j hj => by rw [ti_n0] at hj; omega)
theorem e_remove (hM : CI n M) (hp : p1.toInt = (c : Int)) (hc : c < 10) (hnd : (rl M c).Nodup) : Ok (F_X2_remove M 6 p1 p2) (fun M' => CI n M' ∧ rl M' c = (rl M c).filter (fun v => decide (¬ v = p2)) ∧ (∀ c', c' < 10 → c' ≠ c → rl M' c' = rl M c') ∧ ∀ k j, k ≠ 7 → k ≠ 8 → M' k j = M k j) := by
  refine ok_and (s_remove rw_6 hM) ?_
  unfold F_X2_remove
  have hr := rw_6
  have ec : p1.toNatClampNeg = c := cl_of hp
  have h7 := hM.l7 c
  refine ok_b (e_placeOf hM hp hc) (fun q hq => ?_)
  rcases hq with ⟨rfl, hq⟩ | ⟨pl, rfl, hi, he⟩
  · refine ok_i (fun _ => ok_s ⟨?_, fun _ _ _ => rfl, fun _ _ _ _ => rfl⟩) (fun d => absurd rfl d)
    exact (List.filter_eq_self.mpr (fun a ha => by simp; rintro rfl; exact hq ha)).symm
  · refine ok_i (fun d => ?_) (fun _ => ?_)
    · rw [ti_eq, ti_nI (by omega), ti_m1] at d
      omega
    · have g : inb p1 (ln (6 + 1)) = true := ti_in (by omega) (by rw [hr.1]; omega)
      refine ok_g g (ok_g g (ok_m ?_))
      rw [ec]
      have ed := ti_dec (a := M 7 c) (by omega)
      have hM0 : CI n (up2 M 7 c (M 7 c - 1)) := hM.up (((rw_6.2.2.2.2.2 n).2.1 _ _).mpr (by omega))
      generalize hX : up2 M 7 c (M 7 c - 1) = X at hM0
      have x7 : (X 7 c).toInt = (M 7 c).toInt - 1 := by rw [← hX, up2_s, ed]
      have x8 : ∀ j, X 8 j = M 8 j := fun j => by rw [← hX, up2_k (by decide)]
      have key : ∀ (f : Nat) (Y : Mem) (v : Int32), CI n Y → (∀ k j, k ≠ 8 → Y k j = X k j) → (pl : Int) ≤ v.toInt → v.toInt ≤ (X 7 c).toInt → (∀ j : Nat, Y 8 j = if c * 12 + pl ≤ j ∧ (j : Int) < c * 12 + v.toInt then M 8 (j + 1) else M 8 j) → 12 - v.toInt < f → Ok (L_X2_remove_26 (fun M_7 v4_26 => some M_7) (nI pl) p1 p2 6 f Y v) (fun M' => (∀ k j, k ≠ 8 → M' k j = X k j) ∧ ∀ j : Nat, M' 8 j = if c * 12 + pl ≤ j ∧ (j : Int) < c * 12 + (X 7 c).toInt then M 8 (j + 1) else M 8 j) := by
        intro f
        induction f with
        | zero => intro Y v hY y1 v0 v1 y2 v2; omega
        | succ f ih =>
          intro Y v hY y1 v0 v1 y2 v2
          rw [L_X2_remove_26]
          have y7 : Y 7 c = X 7 c := y1 7 c (by decide)
          refine ok_g g (ok_i (fun d => ok_s ?_) (fun d => ?_))
          · rw [ec, ti_le, y7] at d
            have : v.toInt = (X 7 c).toInt := by omega
            rw [this] at y2
            exact ⟨y1, y2⟩
          · rw [ec, ti_le, y7] at d
            have e1 := ti_inc (a := v) (by omega)
            obtain ⟨a, b, b0⟩ := rw_at hr hY (p1 := p1) (by omega) (by omega) v (by omega) (by omega)
            obtain ⟨a', b', b0'⟩ := rw_at hr hY (p1 := p1) (by omega) (by omega) (v + 1) (by omega) (by omega)
            have hb9 := rw_b hr
            have a2 : ((p1 * Y 6 0 + v) + 1).toInt = (p1 * Y 6 0 + v).toInt + 1 := ti_inc (by omega)
            have i1 : (p1 * Y 6 0 + v).toNatClampNeg = c * 12 + v.toInt.toNat := by rw [ti_cl]; omega
            have i2 : ((p1 * Y 6 0 + v) + 1).toNatClampNeg = c * 12 + v.toInt.toNat + 1 := by rw [ti_cl]; omega
            refine ok_g (ti_in (by omega) (by rw [hr.2.1]; push_cast; omega)) (ok_g (ti_in (by omega) (by rw [hr.2.1]; push_cast; omega)) (ok_m ?_))
            rw [i1, i2]
            refine ih _ _ (hY.up (tc_f (by decide))) (fun k j hk => by rw [up2_k hk]; exact y1 k j hk) (by omega) (by omega) (fun j => ?_) (by omega)
            by_cases hj : j = c * 12 + v.toInt.toNat
            · subst hj
              rw [up2_s, y2, if_neg (by omega), if_pos (by omega)]
            · rw [up2_j hj, y2]
              have : (c * 12 + pl ≤ j ∧ (j : Int) < c * 12 + v.toInt) ↔ (c * 12 + pl ≤ j ∧ (j : Int) < c * 12 + (v + 1).toInt) := by omega
              simp only [this]
      refine ok_w (key 4000 X (nI pl) hM0 (fun _ _ _ => rfl) (by rw [ti_nI (by omega)]; omega) (by rw [ti_nI (by omega)]; omega) (fun j => ?_) (by rw [ti_nI (by omega)]; omega)) (fun M' ⟨f1, f2⟩ => ⟨?_, fun c' hc' hne => ?_, fun k j k7 k8 => ?_⟩)
      · rw [x8, ti_nI (by omega), if_neg (by omega)]
      · obtain ⟨rest, hrest⟩ : ∃ rest, (M 7 c).toInt.toNat = pl + (1 + rest) := ⟨(M 7 c).toInt.toNat - pl - 1, by omega⟩
        have r1 : rl M c = (List.range pl).map (fun i => M 8 (c * 12 + i)) ++ p2 :: (List.range rest).map (fun i => M 8 (c * 12 + (pl + 1 + i))) := by
          unfold rl
          rw [hrest, rg_split, rg_split]
          congr 1
          show [M 8 (c * 12 + (pl + 0))] ++ _ = _
          rw [Nat.add_zero, he]
          show p2 :: _ = _
          congr 1
          apply List.map_congr_left
          intro i _
          rw [show pl + (1 + i) = pl + 1 + i by omega]
        have r2 : rl M' c = (List.range pl).map (fun i => M 8 (c * 12 + i)) ++ (List.range rest).map (fun i => M 8 (c * 12 + (pl + 1 + i))) := by
          unfold rl
          rw [f1 7 c (by decide), show (X 7 c).toInt.toNat = pl + rest by omega, rg_split]
          congr 1
          · apply List.map_congr_left
            intro i hi
            have := List.mem_range.mp hi
            rw [f2, if_neg (by omega)]
          · apply List.map_congr_left
            intro i hi
            have := List.mem_range.mp hi
            rw [f2, if_pos (by omega), show c * 12 + (pl + i) + 1 = c * 12 + (pl + 1 + i) by omega]
        rw [r1] at hnd
        obtain ⟨-, n2, n3⟩ := List.pairwise_append.mp hnd
        obtain ⟨n4, -⟩ := List.pairwise_cons.mp n2
        rw [r2, r1, List.filter_append, List.filter_cons_of_neg (by simp)]
        congr 1
        · exact (List.filter_eq_self.mpr (fun a ha => by simp; exact n3 a ha p2 (List.mem_cons_self ..))).symm
        · exact (List.filter_eq_self.mpr (fun a ha => by simp; exact fun q => n4 a ha q.symm)).symm
      · have h7' := hM.l7 c'
        refine rl_c (by rw [f1 7 c' (by decide), ← hX, up2_j hne]) (fun i hi => ?_)
        rw [f2, if_neg (by omega)]
      · rw [f1 k j k8, ← hX, up2_k k7]
theorem e_stand (hM : CI n M) (hp : p1.toInt = (c : Int)) (hc : c < 10) (h12 : (M 7 c).toInt < 12) : Ok (F_X3_standInLine M p1 p2) (fun M' => CI n M' ∧ ((p2 ∈ rl M c ∧ M' = M) ∨ (p2 ∉ rl M c ∧ rl M' c = rl M c ++ [p2] ∧ (∀ c', c' < 10 → c' ≠ c → rl M' c' = rl M c') ∧ ∀ k j, k ≠ 7 → k ≠ 8 → M' k j = M k j))) := by
  refine ok_and (s_standInLine hM) ?_
  unfold F_X3_standInLine
  have ec : p1.toNatClampNeg = c := cl_of hp
  have h7 := hM.l7 c
  refine ok_b (e_placeOf hM hp hc) (fun q hq => ?_)
  rcases hq with ⟨rfl, hq⟩ | ⟨i, rfl, hi, he⟩
  · refine ok_i (fun _ => ?_) (fun d => absurd rfl d)
    rw [e_add rw_6 hM (by omega) (by omega), ec, if_pos (show (M (6 + 1) c).toInt < ((12 : Nat) : Int) from h12)]
    have ei := ti_inc (a := M 7 c) (by omega)
    have ek : (M 7 c).toNatClampNeg = (M 7 c).toInt.toNat := ti_cl
    refine ok_s (Or.inr ⟨hq, ?_, fun c' hc' hne => ?_, fun k j k7 k8 => ?_⟩)
    · show rl (up2 (up2 M 8 (c * 12 + (M 7 c).toNatClampNeg) p2) 7 c (M 7 c + 1)) c = _
      unfold rl
      rw [up2_s, ei, show ((M 7 c).toInt + 1).toNat = (M 7 c).toInt.toNat + 1 by omega, List.range_succ, List.map_append]
      congr 1
      · apply List.map_congr_left
        intro i hi
        have := List.mem_range.mp hi
        rw [up2_k (by decide), up2_j (by omega)]
      · show [up2 (up2 M 8 (c * 12 + (M 7 c).toNatClampNeg) p2) 7 c (M 7 c + 1) 8 (c * 12 + (M 7 c).toInt.toNat)] = [p2]
        rw [up2_k (by decide), ek, up2_s]
    · have h7' := hM.l7 c'
      refine rl_c ?_ (fun i hi => ?_)
      · show up2 (up2 M 8 _ p2) 7 c (M 7 c + 1) 7 c' = _
        rw [up2_j hne, up2_k (by decide)]
      · show up2 (up2 M 8 (c * 12 + (M 7 c).toNatClampNeg) p2) 7 c (M 7 c + 1) 8 _ = _
        rw [ek, up2_k (by decide), up2_j (by omega)]
    · show up2 (up2 M 8 _ p2) 7 c (M 7 c + 1) k j = _
      rw [up2_k k7, up2_k k8]
  · refine ok_i (fun d => ?_) (fun _ => ok_s (Or.inl ⟨rl_mem.mpr ⟨i, hi, he⟩, rfl⟩))
    rw [ti_eq, ti_nI (by omega), ti_m1] at d
    omega
end CX
