/-! the relation between the class's memory M and the reference's N, n works -/
def RA (n : Nat) (M N : Mem) : Prop := ∀ w, w < 12 → (w < n → M (16 + 7 * w) 3 = N 1 w ∧ M (16 + 7 * w) 4 = N 2 w) ∧ M (16 + 7 * w) 5 = N 3 w ∧ M (16 + 7 * w) 6 = N 4 w ∧ M (16 + 7 * w) 7 = N 5 w ∧ M (16 + 7 * w) 8 = N 8 w ∧ M (16 + 7 * w) 9 = N 9 w ∧ M (16 + 7 * w) 10 = N 7 w ∧ M (16 + 7 * w) 11 = N 6 w
def we (a b : Int32) : Prop := (b.toInt < 100 → a = b) ∧ (100 ≤ b.toInt → a.toInt = b.toInt - 90)
def RB (M N : Mem) : Prop := ∀ w s, w < 12 → s < 10 → M (16 + 7 * w + 2) s = N 12 (10 * w + s) ∧ M (16 + 7 * w + 5) s = N 14 (10 * w + s) ∧ (∀ j, j < 4 → we (M (16 + 7 * w + 3) (s * 4 + j)) (N 13 (4 * (10 * w + s) + j))) ∧ ∀ j, j < 2 → M (16 + 7 * w + 6) (s * 2 + j) = N 15 (2 * (10 * w + s) + j)
def RC (M N : Mem) : Prop := (∀ c, c < 10 → M 3 c = N 17 c ∧ (M 5 c).toInt = (N 16 c).toInt - 1) ∧ (∀ k, k < 144 → M 10 k = N 18 k ∧ M 11 k = N 19 k) ∧ M 9 2 = N 0 22 ∧ M 14 0 = N 0 27 ∧ ∀ j, j < 300 → M 15 j = N 23 j
def RD (n : Nat) (M N : Mem) : Prop := ∀ c, c < 10 → (rl M c).Pairwise (fun a b => (N 11 a.toNatClampNeg).toInt < (N 11 b.toNatClampNeg).toInt) ∧ ∀ v, v ∈ rl M c ↔ ∃ w, w < n ∧ v = nI w ∧ (N 10 w).toInt = c + 1
def RE (M N : Mem) : Prop := (∀ e, e ∈ cL N → (N 16 e.2.1.toNatClampNeg).toInt = e.1.toInt + 1) ∧ ∀ c w : Nat, c < 10 → w < 12 → (N 16 c).toInt = w + 1 → M 4 c = ru (nI w) (cL N) (N 17) c
/-- a work's step, and what it has got, as numbers -/
def spn (N : Mem) (w : Nat) : Nat := (N 4 w).toInt.toNat
def gtn (N : Mem) (w : Nat) : Nat := (N 5 w).toInt.toNat
def RF (n : Nat) (N : Mem) : Prop := ∀ w, w < 12 → (N 10 w).toInt ≠ 0 → w < n ∧ (N 3 w).toInt = 0 ∧ (N 7 w).toInt ≠ 0 ∧ (N 5 w).toInt < (N 12 (10 * w + spn N w)).toInt ∧ (N 13 (4 * (10 * w + spn N w) + gtn N w)).toInt + 1 = (N 10 w).toInt ∧ 0 ≤ (N 11 w).toInt ∧ (N 11 w).toInt < (N 0 13).toInt
def Rr (n : Nat) (M N : Mem) : Prop := RA n M N ∧ RB M N ∧ RC M N ∧ RD n M N ∧ RE M N ∧ RF n N
section RR
variable {n : Nat} {M M' N N' : Mem} {w f k c : Nat} {v : Int32}
theorem RB_c (h : RB M N) (hM : ∀ w z j, (z = 2 ∨ z = 3 ∨ z = 5 ∨ z = 6) → M' (16 + 7 * w + z) j = M (16 + 7 * w + z) j) (hN : ∀ k j, k = 12 ∨ k = 13 ∨ k = 14 ∨ k = 15 → N' k j = N k j) : RB M' N' := by
  intro w s hw hs
  obtain ⟨a, b, c, d⟩ := h w s hw hs
  refine ⟨?_, ?_, fun j hj => ?_, fun j hj => ?_⟩
  · rw [hM w 2 _ (by decide), hN 12 _ (by decide)]; exact a
  · rw [hM w 5 _ (by decide), hN 14 _ (by decide)]; exact b
  · rw [hM w 3 _ (by decide), hN 13 _ (by decide)]; exact c j hj
  · rw [hM w 6 _ (by decide), hN 15 _ (by decide)]; exact d j hj
theorem RC_c (h : RC M N) (hM : ∀ k j, k = 3 ∨ k = 5 ∨ k = 10 ∨ k = 11 ∨ k = 9 ∨ k = 14 ∨ k = 15 → M' k j = M k j) (hN : ∀ k j, k = 16 ∨ k = 17 ∨ k = 18 ∨ k = 19 ∨ k = 23 → N' k j = N k j) (h22 : N' 0 22 = N 0 22) (h27 : N' 0 27 = N 0 27) : RC M' N' := by
  obtain ⟨a, b, c, d, e⟩ := h
  refine ⟨fun c hc => ?_, fun k hk => ?_, ?_, ?_, fun j hj => ?_⟩
  · rw [hM 3 _ (by decide), hM 5 _ (by decide), hN 16 _ (by decide), hN 17 _ (by decide)]; exact a c hc
  · rw [hM 10 _ (by decide), hM 11 _ (by decide), hN 18 _ (by decide), hN 19 _ (by decide)]; exact b k hk
  · rw [hM 9 _ (by decide), h22]; exact c
  · rw [hM 14 _ (by decide), h27]; exact d
  · rw [hM 15 _ (by decide), hN 23 _ (by decide)]; exact e j hj
theorem RD_c (h : RD n M N) (hM : ∀ k j, k = 7 ∨ k = 8 → M' k j = M k j) (hN : ∀ k j, k = 10 ∨ k = 11 → N' k j = N k j) : RD n M' N' := by
  intro c hc
  obtain ⟨a, b⟩ := h c hc
  have e : rl M' c = rl M c := rl_c (hM 7 _ (by decide)) (fun i _ => hM 8 _ (by decide))
  rw [e]
  refine ⟨?_, fun v => ?_⟩
  · refine a.imp (fun {x y} q => ?_)
    rw [hN 11 _ (by decide), hN 11 _ (by decide)]
    exact q
  · rw [b v]
    constructor
    · rintro ⟨w, h1, h2, h3⟩
      exact ⟨w, h1, h2, by rw [hN 10 _ (by decide)]; exact h3⟩
    · rintro ⟨w, h1, h2, h3⟩
      exact ⟨w, h1, h2, by rw [hN 10 _ (by decide)] at h3; exact h3⟩
theorem RE_c (h : RE M N) (hM : ∀ j, M' 4 j = M 4 j) (h16 : ∀ j, N' 16 j = N 16 j) (h17 : ∀ j, N' 17 j = N 17 j) (hc : cL N' = cL N) : RE M' N' := by
  refine ⟨fun e he => ?_, fun c w hc' hw ho => ?_⟩
  · rw [hc] at he
    rw [h16]
    exact h.1 e he
  · rw [h16] at ho
    rw [hM, hc, show N' 17 = N 17 from funext h17]
    exact h.2 c w hc' hw ho
theorem RF_c (h : RF n N) (h3 : ∀ j, N' 3 j = N 3 j) (h4 : ∀ j, N' 4 j = N 4 j) (h5 : ∀ j, N' 5 j = N 5 j) (h7 : ∀ j, N' 7 j = N 7 j) (h10 : ∀ j, N' 10 j = N 10 j) (h11 : ∀ j, N' 11 j = N 11 j) (h12 : ∀ j, N' 12 j = N 12 j) (h13 : ∀ j, N' 13 j = N 13 j) (hc : N' 0 13 = N 0 13) : RF n N' := by
  intro w hw hn
  unfold spn gtn
  rw [h10] at hn
  rw [h3, h4, h5, h7, h10, h11, h12, h13, hc]
  exact h w hw hn
/-- a place of a work that isn't waiting changes -/
theorem RF_w (h : RF n N) (hk : k = 3 ∨ k = 4 ∨ k = 5 ∨ k = 7) (h0 : (N 10 w).toInt = 0) : RF n (up2 N k w v) := by
  intro u hu hn
  rw [up2_k (by omega)] at hn
  have hne : u ≠ w := by
    intro e
    subst e
    exact hn h0
  have e : ∀ z, up2 N k w v z u = N z u := fun z => by rw [up2_e, if_neg (by omega)]
  unfold spn gtn
  rw [e 3, e 4, e 5, e 7, e 10, e 11, up2_k (show (12 : Nat) ≠ k by omega), up2_k (show (13 : Nat) ≠ k by omega), up2_k (show (0 : Nat) ≠ k by omega)]
  exact h u hu hn
theorem RF_o (h : RF n N) (hk : k = 1 ∨ k = 2 ∨ k = 6 ∨ k = 8 ∨ k = 9) : RF n (up2 N k w v) :=
  RF_c h (fun j => up2_k (by omega)) (fun j => up2_k (by omega)) (fun j => up2_k (by omega)) (fun j => up2_k (by omega)) (fun j => up2_k (by omega)) (fun j => up2_k (by omega)) (fun j => up2_k (by omega)) (fun j => up2_k (by omega)) (up2_k (by omega))
theorem RF_7 (h : RF n N) (hv : v.toInt ≠ 0) : RF n (up2 N 7 w v) := by
  intro u hu hn
  rw [up2_k (by decide)] at hn
  obtain ⟨a, b, c, d⟩ := h u hu hn
  unfold spn gtn
  rw [up2_k (show (3 : Nat) ≠ 7 by decide), up2_k (show (4 : Nat) ≠ 7 by decide), up2_k (show (5 : Nat) ≠ 7 by decide), up2_k (show (10 : Nat) ≠ 7 by decide), up2_k (show (11 : Nat) ≠ 7 by decide), up2_k (show (12 : Nat) ≠ 7 by decide), up2_k (show (13 : Nat) ≠ 7 by decide), up2_k (show (0 : Nat) ≠ 7 by decide)]
  refine ⟨a, b, ?_, d⟩
  rw [up2_e]
  split
  · exact hv
  · exact c
/-- one field of a work, on both sides -/
theorem Rr_fld (h : Rr n M N) (hp : (f = 5 ∧ k = 3) ∨ (f = 6 ∧ k = 4) ∨ (f = 7 ∧ k = 5) ∨ (f = 8 ∧ k = 8) ∨ (f = 9 ∧ k = 9) ∨ (f = 10 ∧ k = 7) ∨ (f = 11 ∧ k = 6) ∨ (f = 3 ∧ k = 1) ∨ (f = 4 ∧ k = 2)) (hF : RF n (up2 N k w v)) : Rr n (up2 M (16 + 7 * w) f v) (up2 N k w v) := by
  obtain ⟨a, b, c, d, e, -⟩ := h
  refine ⟨fun u hu => ?_, RB_c b (fun w' z j hz => up2_k (by omega)) (fun k' j hk => up2_k (by omega)), RC_c c (fun k' j hk => up2_k (by omega)) (fun k' j hk => up2_k (by omega)) (up2_k (by omega)) (up2_k (by omega)), RD_c d (fun k' j hk => up2_k (by omega)) (fun k' j hk => up2_k (by omega)), RE_c e (fun j => up2_k (by omega)) (fun j => up2_k (by omega)) (fun j => up2_k (by omega)) (cL_c (up2_k (by omega)) (fun k' j hk => up2_k (by omega))), hF⟩
  obtain ⟨a1, a2, a3, a4, a5, a6, a7, a8⟩ := a u hu
  by_cases eu : u = w
  · subst eu
    rcases hp with ⟨rfl, rfl⟩ | ⟨rfl, rfl⟩ | ⟨rfl, rfl⟩ | ⟨rfl, rfl⟩ | ⟨rfl, rfl⟩ | ⟨rfl, rfl⟩ | ⟨rfl, rfl⟩ | ⟨rfl, rfl⟩ | ⟨rfl, rfl⟩ <;> simp [up2_e, a2, a3, a4, a5, a6, a7, a8] <;> (intro q; simp [a1 q])
  · have e1 : ∀ z, up2 M (16 + 7 * w) f v (16 + 7 * u) z = M (16 + 7 * u) z := fun z => up2_k (by omega)
    have e2 : ∀ z, up2 N k w v z u = N z u := fun z => by rw [up2_e, if_neg (by omega)]
    simp only [e1, e2]
    exact ⟨a1, a2, a3, a4, a5, a6, a7, a8⟩
/-- what only the messages, the copies' values or the log know -/
theorem Rr_C (h : Rr n M N) (hC : RC M' N') (hM : ∀ k j, k ≠ 10 → k ≠ 11 → k ≠ 9 → k ≠ 14 → k ≠ 15 → M' k j = M k j) (hN : ∀ k j, k ≠ 18 → k ≠ 19 → k ≠ 23 → (k ≠ 0 ∨ (j ≠ 22 ∧ j ≠ 27)) → N' k j = N k j) : Rr n M' N' := by
  obtain ⟨a, b, c, d, e, f⟩ := h
  have n1 : ∀ k j, k ≠ 18 → k ≠ 19 → k ≠ 23 → k ≠ 0 → N' k j = N k j := fun k j x y z t => hN k j x y z (Or.inl t)
  refine ⟨fun u hu => ?_, RB_c b (fun w' z j hz => hM _ _ (by omega) (by omega) (by omega) (by omega) (by omega)) (fun k' j hk => n1 _ _ (by omega) (by omega) (by omega) (by omega)), hC, RD_c d (fun k' j hk => hM _ _ (by omega) (by omega) (by omega) (by omega) (by omega)) (fun k' j hk => n1 _ _ (by omega) (by omega) (by omega) (by omega)), RE_c e (fun j => hM _ _ (by decide) (by decide) (by decide) (by decide) (by decide)) (fun j => n1 _ _ (by decide) (by decide) (by decide) (by decide)) (fun j => n1 _ _ (by decide) (by decide) (by decide) (by decide)) (cL_c (hN 0 23 (by decide) (by decide) (by decide) (Or.inr (by decide))) (fun k' j hk => n1 _ _ (by omega) (by omega) (by omega) (by omega))), RF_c f (fun j => n1 _ _ (by decide) (by decide) (by decide) (by decide)) (fun j => n1 _ _ (by decide) (by decide) (by decide) (by decide)) (fun j => n1 _ _ (by decide) (by decide) (by decide) (by decide)) (fun j => n1 _ _ (by decide) (by decide) (by decide) (by decide)) (fun j => n1 _ _ (by decide) (by decide) (by decide) (by decide)) (fun j => n1 _ _ (by decide) (by decide) (by decide) (by decide)) (fun j => n1 _ _ (by decide) (by decide) (by decide) (by decide)) (fun j => n1 _ _ (by decide) (by decide) (by decide) (by decide)) (hN 0 13 (by decide) (by decide) (by decide) (Or.inr (by decide)))⟩
  have e1 : ∀ z, M' (16 + 7 * u) z = M (16 + 7 * u) z := fun z => hM _ _ (by omega) (by omega) (by omega) (by omega) (by omega)
  have e2 : ∀ z, z ≠ 18 → z ≠ 19 → z ≠ 23 → z ≠ 0 → N' z u = N z u := fun z => n1 z u
  simp only [e1]
  rw [e2 1 (by decide) (by decide) (by decide) (by decide), e2 2 (by decide) (by decide) (by decide) (by decide), e2 3 (by decide) (by decide) (by decide) (by decide), e2 4 (by decide) (by decide) (by decide) (by decide), e2 5 (by decide) (by decide) (by decide) (by decide), e2 6 (by decide) (by decide) (by decide) (by decide), e2 7 (by decide) (by decide) (by decide) (by decide), e2 8 (by decide) (by decide) (by decide) (by decide), e2 9 (by decide) (by decide) (by decide) (by decide)]
  exact a u hu
theorem RD.nd (h : RD n M N) (hc : c < 10) : (rl M c).Nodup := (h c hc).1.imp (fun {x y} q e => by subst e; omega)
/-! lists of works, counted -/
theorem cnt_nd : ∀ (l : List Int32), l.Nodup → (∀ v, v ∈ l → ∃ k, k < n ∧ v = nI k) → n ≤ 12 → sm (fun k => if nI k ∈ l then 1 else 0) n = l.length := by
  intro l
  induction l with
  | nil =>
    intro _ _ _
    rw [sm_c (f := fun _ => 0) n (fun i _ => by simp)]
    have : ∀ m : Nat, sm (fun _ => (0 : Int)) m = 0 := by
      intro m
      induction m with
      | zero => rfl
      | succ m ih => rw [sm, ih]; rfl
    rw [this]; rfl
  | cons x l ih =>
    intro hnd hk hn
    obtain ⟨n1, n2⟩ := List.pairwise_cons.mp hnd
    obtain ⟨k, hk1, hk2⟩ := hk x (List.mem_cons_self ..)
    have ih := ih n2 (fun v hv => hk v (List.mem_cons_of_mem _ hv)) hn
    have hx : nI k ∉ l := fun q => n1 _ q hk2
    rw [sm_u (f := fun k => if nI k ∈ l then 1 else 0) (k := k) n hk1 (fun i hi hne => by
      have : ¬ nI i = x := by
        rw [hk2, ti_eq, ti_nI (by omega), ti_nI (by omega)]
        omega
      simp [this]), ih]
    have hx2 : x ∉ l := fun q => n1 _ q rfl
    simp [hx2, ← hk2]
theorem nd_len {l : List Int32} (h : l.Nodup) (hk : ∀ v, v ∈ l → ∃ k, k < n ∧ v = nI k) (hn : n ≤ 12) : l.length ≤ n := by
  have h1 := cnt_nd l h hk hn
  have h2 := sm_g (f := fun k => if nI k ∈ l then 1 else 0) (b := 1) n (fun i _ => by split <;> omega)
  omega
theorem nd_lt {l : List Int32} (h : l.Nodup) (hk : ∀ v, v ∈ l → ∃ k, k < n ∧ v = nI k) (hn : n ≤ 12) (hw : w < n) (hx : nI w ∉ l) : l.length < n := by
  have := nd_len (l := nI w :: l) (List.pairwise_cons.mpr ⟨fun a ha e => hx (by rw [e]; exact ha), h⟩) (fun v hv => by
    rcases List.mem_cons.mp hv with rfl | hv
    · exact ⟨w, hw, rfl⟩
    · exact hk v hv) hn
  rw [List.length_cons] at this
  omega
end RR
