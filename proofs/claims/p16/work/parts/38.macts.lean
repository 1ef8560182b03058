section MA
variable {n : Nat} {N : Mem} {p1 p2 c2 : Int32} {B : Int}
/-- messages lost, and still to be lost -/
def La (N : Mem) : Int := sm (fun k => (N 19 k).toInt) 144 + (N 0 22).toInt
theorem la_c {N' : Mem} (h : ∀ j, N' 19 j = N 19 j) (h2 : N' 0 22 = N 0 22) : La N' = La N := by
  unfold La
  rw [h2, sm_c 144 (fun i _ => by rw [h i])]
theorem la_k (hN : MT n N) {k : Nat} (hk : k < 144) : (N 19 k).toInt ≤ La N := by
  unfold La
  have := sm_le (f := fun k => (N 19 k).toInt) (k := k) 144 (fun i _ => hN.ls) hk
  have h2 := hN.lo
  show (N 19 k).toInt ≤ _
  exact Int.le_trans this (by omega)
/-- what one act writes down of its copies -/
def own (w : Int32) (N : Mem) (i : Nat) : List Ce := (List.range i).filterMap (fun c => if N 16 c = w + 1 then some (w, nI c, N 17 c) else none)
theorem own_s {w : Int32} {i : Nat} : own w N (i + 1) = own w N i ++ (if N 16 i = w + 1 then [(w, nI i, N 17 i)] else []) := by
  unfold own
  rw [List.range_succ, List.filterMap_append]
  congr 1
  by_cases h : N 16 i = w + 1
  · simp [h]
  · simp [h]
theorem own_l {w : Int32} {i : Nat} : (own w N i).length ≤ i := by
  unfold own
  refine Nat.le_trans (List.length_filterMap_le _ _) ?_
  simp
def A1 (w s : Int32) (n : Nat) (N N' : Mem) : Prop :=
  MT n N' ∧ (∀ k j, k ≠ 17 → k ≠ 20 → k ≠ 21 → k ≠ 22 → (k ≠ 0 ∨ j ≠ 23) → N' k j = N k j) ∧ (∀ j, N' 17 j = if j < 10 ∧ N 16 j = w + 1 then 3 * N 17 j + w + 10 * s else N 17 j) ∧ cL N' = cL N ++ own w N 10
theorem m_ac1 {P : Mem → Prop} {K : Mem → Int32 → Option Mem} {N0 : Mem} (h0 : 0 ≤ p1.toInt) (h1 : p1.toInt < 12) (hb : (N0 0 23).toInt ≤ 1190) (hK : ∀ N b, A1 p1 c2 n N0 N → Ok (K N b) P) : ∀ (f : Nat) (N : Mem) (b : Int32), MT n N → (∀ k j, k ≠ 17 → k ≠ 20 → k ≠ 21 → k ≠ 22 → (k ≠ 0 ∨ j ≠ 23) → N k j = N0 k j) → (∀ j, N 17 j = if (j : Int) < b.toInt ∧ N0 16 j = p1 + 1 then 3 * N0 17 j + p1 + 10 * c2 else N0 17 j) → cL N = cL N0 ++ own p1 N0 b.toInt.toNat → 0 ≤ b.toInt → b.toInt ≤ 10 → 10 - b.toInt < f → Ok (L_X6_acts_9 K c2 p1 f N b) P := by
  intro f
  induction f with
  | zero => intro N b hN a1 a2 a3 h3 h4 h5; omega
  | succ f ih =>
    intro N b hN a1 a2 a3 h3 h4 h5
    rw [L_X6_acts_9]
    refine ok_i (fun c => ?_) (fun c => ?_)
    · rw [ti_le, ti_n10] at c
      have e10 : b.toInt.toNat = 10 := by omega
      rw [e10] at a3
      refine hK _ _ ⟨hN, a1, fun j => ?_, a3⟩
      rw [a2 j]
      have e : ((j : Int) < b.toInt) ↔ j < 10 := by omega
      simp only [e]
    · rw [ti_le, ti_n10] at c
      have e1 := ti_inc (a := b) (by omega)
      have es : (b + 1).toInt.toNat = b.toInt.toNat + 1 := by omega
      have g : inb b 10 = true := ti_in h3 (by omega)
      have hob := a1 16 b.toNatClampNeg (by decide) (by decide) (by decide) (by decide) (Or.inl (by decide))
      have hcl := congrArg List.length a3
      have hcn := hN.ch
      rw [List.length_append] at hcl
      unfold cL at hcl
      rw [cl_len, cl_len] at hcl
      have hol := own_l (N := N0) (w := p1) (i := b.toInt.toNat)
      refine ok_g g (ok_i (fun d => ?_) (fun d => ?_))
      · have gm : ∀ X : Mem, X 0 23 = N 0 23 → inb (X 0 23) 1200 = true := by
          intro X hX
          rw [hX]
          exact ti_in hcn.1 (by omega)
        have x7 : up2 N 20 (N 0 23).toNatClampNeg p1 0 23 = N 0 23 := up2_k (by decide)
        refine ok_g (gm N rfl) (ok_m (ok_g (gm _ x7) (ok_m ?_)))
        rw [x7]
        have x9 : up2 (up2 N 20 (N 0 23).toNatClampNeg p1) 21 (N 0 23).toNatClampNeg b 0 23 = N 0 23 := by rw [up2_k (by decide), x7]
        refine ok_g g (ok_g (gm _ x9) (ok_m ?_))
        rw [x9]
        have x9b : up2 (up2 N 20 (N 0 23).toNatClampNeg p1) 21 (N 0 23).toNatClampNeg b 17 b.toNatClampNeg = N 17 b.toNatClampNeg := by rw [up2_k (by decide), up2_k (by decide)]
        rw [x9b]
        refine ok_m ?_
        rw [up2_k (show (0 : Nat) ≠ 22 by decide), x9]
        refine ok_g g (ok_g g (ok_m ?_))
        rw [up2_k (show (17 : Nat) ≠ 0 by decide), up2_k (show (17 : Nat) ≠ 22 by decide), x9b]
        have em := ti_inc (a := N 0 23) (by omega)
        have hv : N 17 b.toNatClampNeg = N0 17 b.toNatClampNeg := by
          rw [a2, if_neg (by rw [ti_cl]; omega)]
        have hbn : b = nI b.toNatClampNeg := by rw [ti_eq, ti_nI (by rw [ti_cl]; omega), ti_cl]; omega
        refine ih _ _ (((((hN.up (tm_cb (by omega))).up (tm_cd (by omega))).up (tm_f (by decide))).up (tm_ch (by omega))).up (tm_f (by decide))) (fun k j k17 k20 k21 k22 kz => ?_) (fun j => ?_) ?_ (by omega) (by omega) (by omega)
        · rw [up2_k k17, up2_e, if_neg (by omega), up2_k k22, up2_k k21, up2_k k20]
          exact a1 k j k17 k20 k21 k22 kz
        · by_cases hj : j = b.toNatClampNeg
          · subst hj
            rw [up2_s, hv, if_pos ⟨by rw [ti_cl]; omega, by rw [← hob]; exact d⟩]
          · rw [up2_j hj, up2_k (by decide), up2_k (by decide), up2_k (by decide), up2_k (by decide), a2 j]
            rw [ti_cl] at hj
            have e : ((j : Int) < b.toInt) ↔ ((j : Int) < (b + 1).toInt) := by omega
            simp only [e]
        · rw [es, own_s, ← List.append_assoc, ← a3]
          have d2 : N0 16 b.toInt.toNat = p1 + 1 := by rw [← ti_cl, ← hob]; exact d
          rw [if_pos d2]
          unfold cL
          rw [up2_k (show (0 : Nat) ≠ 17 by decide), up2_s, em, show ((N 0 23).toInt + 1).toNat = (N 0 23).toInt.toNat + 1 by omega, cl_s]
          congr 1
          · refine cl_c (fun k hk => ?_)
            have : k ≠ (N 0 23).toNatClampNeg := by rw [ti_cl]; omega
            refine ⟨?_, ?_, ?_⟩
            · rw [up2_k (by decide), up2_k (by decide), up2_k (by decide), up2_k (by decide), up2_j this]
            · rw [up2_k (by decide), up2_k (by decide), up2_k (by decide), up2_j this, up2_k (by decide)]
            · rw [up2_k (by decide), up2_k (by decide), up2_j this, up2_k (by decide), up2_k (by decide)]
          · rw [← ti_cl]
            rw [up2_k (show (20 : Nat) ≠ 17 by decide), up2_k (show (20 : Nat) ≠ 0 by decide), up2_k (show (20 : Nat) ≠ 22 by decide), up2_k (show (20 : Nat) ≠ 21 by decide), up2_s, up2_k (show (21 : Nat) ≠ 17 by decide), up2_k (show (21 : Nat) ≠ 0 by decide), up2_k (show (21 : Nat) ≠ 22 by decide), up2_s, up2_k (show (22 : Nat) ≠ 17 by decide), up2_k (show (22 : Nat) ≠ 0 by decide), up2_s, ← ti_cl, ← hbn, hv]
      · refine ih _ _ hN a1 (fun j => ?_) ?_ (by omega) (by omega) (by omega)
        · rw [a2 j]
          by_cases hj : j = b.toNatClampNeg
          · subst hj
            rw [hob] at d
            rw [if_neg (fun q => d q.2), if_neg (fun q => d q.2)]
          · rw [ti_cl] at hj
            have e : ((j : Int) < b.toInt) ↔ ((j : Int) < (b + 1).toInt) := by omega
            simp only [e]
        · have d2 : ¬ N0 16 b.toInt.toNat = p1 + 1 := by rw [← ti_cl, ← hob]; exact d
          rw [es, own_s, if_neg d2, List.append_nil]
          exact a3
/-- one message sent -/
def sdN (N : Mem) (k : Nat) : Mem := if N 0 22 ≤ 0 then up2 N 18 k (N 18 k + 1) else up2 (up2 N 0 22 (N 0 22 - 1)) 19 k (N 19 k + 1)
theorem sd_f {k a b : Nat} (h1 : a ≠ 18) (h2 : a ≠ 19) (h3 : a ≠ 0 ∨ b ≠ 22) : sdN N k a b = N a b := by
  unfold sdN
  by_cases c : N 0 22 ≤ 0
  · rw [if_pos c, up2_k h1]
  · rw [if_neg c, up2_k h2, up2_e, if_neg (by omega)]
theorem sd_M (hN : MT n N) (hL : La N ≤ B) (hB : B ≤ 1000000) {k : Nat} (hk : k < 144) : MT n (sdN N k) ∧ La (sdN N k) = La N := by
  unfold sdN
  have hl := hN.lo
  by_cases c : N 0 22 ≤ 0
  · rw [if_pos c]
    exact ⟨hN.up (tm_f (by decide)), la_c (fun j => up2_k (by decide)) (up2_k (by decide))⟩
  · rw [if_neg c]
    rw [ti_le, ti_n0] at c
    have hk9 := la_k hN hk
    have hk0 := hN.ls (j := k)
    have e1 := ti_inc (a := N 19 k) (by omega)
    have e2 := ti_dec (a := N 0 22) (by omega)
    refine ⟨(hN.up (tm_lo (by omega))).up (tm_ls (by omega)), ?_⟩
    unfold La
    rw [sm_u (f := fun k => (N 19 k).toInt) (k := k) 144 hk (fun i _ hi => by rw [up2_j hi, up2_k (by decide)])]
    rw [up2_s, up2_k (show (0 : Nat) ≠ 19 by decide), up2_s, e1, e2]
    omega
/-- the place of a message from w, sent in step s, the i-th -/
def sdk (N : Mem) (w s : Int32) (i : Nat) : Nat := ((12 * w) + (N 15 ((2 * ((10 * w) + s)) + nI i).toNatClampNeg)).toNatClampNeg
def sdl (w s : Int32) (N : Mem) (i : Nat) : Mem := (List.range i).foldl (fun X k => sdN X (sdk N w s k)) N
theorem sdl_s {w s : Int32} {i : Nat} : sdl w s N (i + 1) = sdN (sdl w s N i) (sdk N w s i) := by
  unfold sdl
  rw [List.range_succ, List.foldl_append]
  rfl
theorem m_k10 (h0 : 0 ≤ p1.toInt) (h1 : p1.toInt < 12) (s0 : 0 ≤ c2.toInt) (s1 : c2.toInt < 10) : ((10 * p1) + c2).toInt = 10 * p1.toInt + c2.toInt := by
  have e : (10 * p1).toInt = 10 * p1.toInt := by rw [ti_mul (by rw [ti_n10]; omega) (by rw [ti_n10]; omega), ti_n10]
  rw [ti_add (by omega) (by omega), e]
theorem sdl_f {w s : Int32} {a b : Nat} (h1 : a ≠ 18) (h2 : a ≠ 19) (h3 : a ≠ 0 ∨ b ≠ 22) : ∀ i, sdl w s N i a b = N a b := by
  intro i
  induction i with
  | zero => rfl
  | succ i ih => rw [sdl_s, sd_f h1 h2 h3, ih]
theorem m_sdi (h0 : 0 ≤ p1.toInt) (h1 : p1.toInt < 12) (s0 : 0 ≤ c2.toInt) (s1 : c2.toInt < 10) {b : Int32} (b0 : 0 ≤ b.toInt) (b1 : b.toInt < 2) : ((2 * ((10 * p1) + c2)) + b).toInt = 2 * (10 * p1.toInt + c2.toInt) + b.toInt := by
  have ek := m_k10 h0 h1 s0 s1
  have e2 : (2 * ((10 * p1) + c2)).toInt = 2 * (10 * p1.toInt + c2.toInt) := by rw [ti_mul (by rw [ti_n2]; omega) (by rw [ti_n2]; omega), ti_n2, ek]
  rw [ti_add (by omega) (by omega), e2]
theorem m_ac2 {P : Mem → Prop} {K : Mem → Int32 → Option Mem} {N0 : Mem} (hB : B ≤ 1000000) (h0 : 0 ≤ p1.toInt) (h1 : p1.toInt < 12) (s0 : 0 ≤ c2.toInt) (s1 : c2.toInt < 10) (hL0 : La N0 ≤ B) (hK : ∀ N b, MT n N → La N = La N0 → N = sdl p1 c2 N0 (N0 14 ((10 * p1) + c2).toNatClampNeg).toInt.toNat → Ok (K N b) P) : ∀ (f : Nat) (N : Mem) (b : Int32), MT n N → La N = La N0 → N = sdl p1 c2 N0 b.toInt.toNat → 0 ≤ b.toInt → b.toInt ≤ (N0 14 ((10 * p1) + c2).toNatClampNeg).toInt → 2 - b.toInt < f → Ok (L_X6_acts_139 K c2 p1 f N b) P := by
  intro f
  have ek := m_k10 h0 h1 s0 s1
  have gk : inb ((10 * p1) + c2) 120 = true := ti_in (by omega) (by omega)
  induction f with
  | zero =>
    intro N b hN hL hs h3 h4 h5
    have := hN.sc (j := ((10 * p1) + c2).toNatClampNeg)
    rw [hs, sdl_f (by decide) (by decide) (Or.inl (by decide))] at this
    omega
  | succ f ih =>
    intro N b hN hL hs h3 h4 h5
    have hsc := hN.sc (j := ((10 * p1) + c2).toNatClampNeg)
    have fr : ∀ a b : Nat, a ≠ 18 → a ≠ 19 → (a ≠ 0 ∨ b ≠ 22) → N a b = N0 a b := fun a b x y z => by rw [hs]; exact sdl_f x y z _
    have e14 := fr 14 ((10 * p1) + c2).toNatClampNeg (by decide) (by decide) (Or.inl (by decide))
    rw [e14] at hsc
    rw [L_X6_acts_139]
    refine ok_g gk (ok_i (fun c => ?_) (fun c => ?_))
    · rw [e14, ti_le] at c
      refine hK _ _ hN hL ?_
      have eb : b.toInt.toNat = (N0 14 ((10 * p1) + c2).toNatClampNeg).toInt.toNat := by omega
      rw [← eb]
      exact hs
    · rw [e14, ti_le] at c
      have e1 := ti_inc (a := b) (by omega)
      have es : (b + 1).toInt.toNat = b.toInt.toNat + 1 := by omega
      have ei := m_sdi h0 h1 s0 s1 h3 (show b.toInt < 2 by omega)
      have gi : inb ((2 * ((10 * p1) + c2)) + b) 240 = true := ti_in (by omega) (by omega)
      have hsd := hN.sd (j := ((2 * ((10 * p1) + c2)) + b).toNatClampNeg)
      have e15 := fr 15 ((2 * ((10 * p1) + c2)) + b).toNatClampNeg (by decide) (by decide) (Or.inl (by decide))
      have ep := m_pair (p1 := N 15 ((2 * ((10 * p1) + c2)) + b).toNatClampNeg) (p2 := p1) hsd.1 (by omega) h0 h1
      have gp : inb ((12 * p1) + (N 15 ((2 * ((10 * p1) + c2)) + b).toNatClampNeg)) 144 = true := ti_in (by omega) (by omega)
      have hbn : b = nI b.toInt.toNat := by rw [ti_eq, ti_nI (by omega)]; omega
      have hkk : ((12 * p1) + (N 15 ((2 * ((10 * p1) + c2)) + b).toNatClampNeg)).toNatClampNeg = sdk N0 p1 c2 b.toInt.toNat := by
        unfold sdk
        rw [← hbn, e15]
      have hk1 : ((12 * p1) + (N 15 ((2 * ((10 * p1) + c2)) + b).toNatClampNeg)).toNatClampNeg < 144 := by rw [ti_cl]; omega
      have nx : ∀ X, X = sdN N ((12 * p1) + (N 15 ((2 * ((10 * p1) + c2)) + b).toNatClampNeg)).toNatClampNeg → Ok (L_X6_acts_139 K c2 p1 f X (b + 1)) P := by
        intro X hX
        obtain ⟨m1, m2⟩ := sd_M hN (B := B) (by omega) hB hk1
        rw [← hX] at m1 m2
        refine ih _ _ m1 (by omega) ?_ (by omega) (by omega) (by omega)
        rw [es, sdl_s, hX, hkk, ← hs]
      refine ok_g gi (ok_i (fun d => ok_g gp (ok_g gp (ok_m (nx _ ?_)))) (fun d => ok_m (ok_g gp (ok_g gp (ok_m (nx _ ?_))))))
      · unfold sdN
        rw [if_pos d]
      · unfold sdN
        rw [if_neg d, up2_k (show (19 : Nat) ≠ 0 by decide)]
end MA
