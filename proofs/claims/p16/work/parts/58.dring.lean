section YX
variable {n : Nat} {M M' N N' : Mem} {w c k : Nat} {u v p1 p2 x : Int32} {B C : Int}
theorem ok2_l {α β γ : Type} {x : Option α} {y : Option β} {P : α → β → Prop} {f : α → Option γ} {g : β → Option γ} {Q : γ → γ → Prop} (h : Ok2 x y P) (k : ∀ a b, P a b → Ok2 (f a) (g b) Q) : Ok2 (bi x f) (bi y g) Q := by
  obtain ⟨a, b, e, e', h⟩ := h
  rw [e, e', bi_s, bi_s]
  exact k a b h
theorem undo_eq {to : Int32} (hR : Rs n B C M N) (hw : w < n) (ht : to.toInt ≠ 0) : Ok2 (F_X5_undo M (16 + 7 * w) to) (F_X6_undo N (nI w) to) (fun M' N' => Rs n B C M' N') := by
  obtain ⟨rI, rM, rR, rG, rk0, rk1⟩ := hR
  have h12 := rI.1.1
  have ew : (nI w).toInt = w := ti_nI (by omega)
  obtain ⟨M1, e1, hM1, hU⟩ := e_undo (p2 := to) rM (show w < 12 by omega) (fun c hc => rR.2.2.2.1.nd hc)
  obtain ⟨N1, e2, hV⟩ := m_undo (p1 := nI w) (p2 := to) rI.1 (by omega) (by omega)
  have hI := (rI.undo (by omega) (by omega) hV ht).1
  refine ⟨M1, N1, e1, e2, hI, hM1, Rr_undo rR rM rI.1 (by omega) ew hU hV, RG_un rG (by omega) hV, ?_, ?_⟩
  · rw [ck_un hV]; exact rk0
  · rw [ck_un hV]; exact rk1
/-- whom one waits for -/
def gw (N : Mem) (a : Int32) : Int32 := if N 10 a.toNatClampNeg = 0 then -1 else N 16 (N 10 a.toNatClampNeg - 1).toNatClampNeg - 1
theorem gw_r (hN : MT n N) (a : Int32) : -1 ≤ (gw N a).toInt ∧ (gw N a).toInt < n := by
  unfold gw
  split
  · rw [ti_m1]; omega
  · have ho := hN.ow (j := (N 10 a.toNatClampNeg - 1).toNatClampNeg)
    rw [ti_dec (by omega)]
    omega
theorem e_waitsOn (hN : MT n N) (h0 : 0 ≤ u.toInt) (h1 : u.toInt < n) : F_X6_waitsOn N u = some (gw N u) := by
  have h12 := hN.1
  unfold F_X6_waitsOn gw
  have g : inb u 12 = true := ti_in h0 (by omega)
  have hwf := hN.wf (j := u.toNatClampNeg)
  rw [show lm 10 = 12 from rfl, g, gd_t, gd_t]
  by_cases q : N 10 u.toNatClampNeg = 0
  · rw [if_pos q, if_pos q]
  · rw [if_neg q, if_neg q]
    rw [ti_eq, ti_n0] at q
    have e := ti_dec (a := N 10 u.toNatClampNeg) (by omega)
    rw [ti_in (by omega) (by rw [show lm 16 = 10 from rfl]; omega), gd_t]
theorem e_awaited (hR : Rr n M N) (hM : CI n M) (hN : MT n N) (hw : w < n) : Ok (F_X3_holderAwaitedBy M (nI w)) (fun q => q = gw N (nI w)) := by
  have h12 := hN.1
  have hD := hR.2.2.2.1
  have hwf := hN.wf (j := w)
  unfold F_X3_holderAwaitedBy
  have key : ∀ (f : Nat) (v : Int32), 0 ≤ v.toInt → v.toInt ≤ 10 → 10 - v.toInt < f → (∀ c : Nat, (c : Int) < v.toInt → nI w ∉ rl M c) → Ok (L_X3_holderAwaitedBy_2 (fun v2_2 => some (-1)) M (nI w) f v) (fun q => q = gw N (nI w)) := by
    intro f
    induction f with
    | zero => intro v h0 h1 h2; omega
    | succ f ih =>
      intro v h0 h1 h2 h3
      rw [L_X3_holderAwaitedBy_2]
      refine ok_i (fun a => ok_s ?_) (fun a => ?_)
      · rw [ti_le, ti_n10] at a
        unfold gw
        rw [nI_cl (by omega), if_pos]
        rw [ti_eq, ti_n0]
        by_cases q : (N 10 w).toInt = 0
        · exact q
        · exfalso
          have hc : (N 10 w).toInt.toNat - 1 < 10 := by omega
          exact h3 ((N 10 w).toInt.toNat - 1) (by omega) ((rd_mem hD h12 hc hw).mpr (by omega))
      · rw [ti_le, ti_n10] at a
        have e1 := ti_inc (a := v) (by omega)
        obtain ⟨c, hc⟩ : ∃ c : Nat, v.toInt = c := ⟨v.toInt.toNat, by omega⟩
        have hcl : v.toNatClampNeg = c := cl_of hc
        have h7 := hM.l7 c
        refine ok_b (e_placeOf hM hc (by omega)) (fun q hq => ?_)
        rcases hq with ⟨rfl, hq⟩ | ⟨i, rfl, hi, he⟩
        · refine ok_i (fun _ => ih _ (by omega) (by omega) (by omega) (fun c' hc' => ?_)) (fun d => absurd rfl d)
          by_cases q : (c' : Int) < v.toInt
          · exact h3 c' q
          · have : c' = c := by omega
            rw [this]; exact hq
        · refine ok_i (fun d => ?_) (fun _ => ok_g (ti_in h0 (by rw [show ln 5 = 10 from rfl]; omega)) (ok_s ?_))
          · rw [ti_eq, ti_nI (by omega), ti_m1] at d
            omega
          · have hm := (rd_mem hD h12 (show c < 10 by omega) hw).mp (rl_mem.mpr ⟨i, hi, he⟩)
            have hcv := (hR.2.2.1.1 c (by omega)).2
            have ho := hN.ow (j := c)
            unfold gw
            rw [nI_cl (by omega), if_neg (by rw [ti_eq, ti_n0]; omega), hcl]
            have e2 := ti_dec (a := N 10 w) (by omega)
            have e3 : (N 10 w - 1).toNatClampNeg = c := by rw [ti_cl]; omega
            rw [e3, ti_eq, ti_dec (by omega)]
            exact hcv
  exact key 4000 0 (by rw [ti_n0]; omega) (by rw [ti_n0]; omega) (by rw [ti_n0]; omega) (fun c hc => by rw [ti_n0] at hc; omega)
/-- the walk along who waits for whom -/
def lp (N : Mem) (w : Int32) : Nat → Int32 → Int32 → Int32 × Int32
  | 0, mo, a => (mo, a)
  | m + 1, mo, a => if a.toInt < 0 ∨ a = w then (mo, a) else lp N w m (if mo < a then a else mo) (gw N a)
def it (N : Mem) : Nat → Int32 → Int32
  | 0, a => a
  | k + 1, a => it N k (gw N a)
theorem it_add : ∀ (i t : Nat) (a : Int32), it N (i + t) a = it N t (it N i a) := by
  intro i
  induction i with
  | zero => intro t a; rw [Nat.zero_add]; rfl
  | succ i ih =>
    intro t a
    rw [show i + 1 + t = (i + t) + 1 by omega, it, it, ih]
theorem it_r (hN : MT n N) : ∀ (k : Nat) (a : Int32), a.toInt < n → (it N k a).toInt < n := by
  intro k
  induction k with
  | zero => intro a h; exact h
  | succ k ih => intro a h; rw [it]; exact ih _ (gw_r hN a).2
theorem lp_stop {wI : Int32} : ∀ (m d : Nat) (mo a : Int32), ((lp N wI m mo a).2.toInt < 0 ∨ (lp N wI m mo a).2 = wI) → lp N wI (m + d) mo a = lp N wI m mo a := by
  intro m
  induction m with
  | zero =>
    intro d mo a h
    cases d with
    | zero => rfl
    | succ d =>
      have h' : a.toInt < 0 ∨ a = wI := h
      rw [Nat.zero_add]
      show lp N wI (d + 1) mo a = (mo, a)
      rw [lp, if_pos h']
  | succ m ih =>
    intro d mo a h
    rw [show m + 1 + d = (m + d) + 1 by omega, lp, lp]
    rw [lp] at h
    by_cases q : a.toInt < 0 ∨ a = wI
    · rw [if_pos q, if_pos q]
    · rw [if_neg q] at h
      rw [if_neg q, if_neg q]
      exact ih d _ _ h
theorem lp_it {wI : Int32} : ∀ (m : Nat) (mo a : Int32), ¬ ((lp N wI m mo a).2.toInt < 0 ∨ (lp N wI m mo a).2 = wI) → ∀ k, k ≤ m → ¬ ((it N k a).toInt < 0 ∨ it N k a = wI) := by
  intro m
  induction m with
  | zero =>
    intro mo a h k hk
    rw [show k = 0 by omega]
    exact h
  | succ m ih =>
    intro mo a h k hk
    rw [lp] at h
    by_cases q : a.toInt < 0 ∨ a = wI
    · rw [if_pos q] at h
      exact absurd q h
    · rw [if_neg q] at h
      cases k with
      | zero => exact q
      | succ k => rw [it]; exact ih _ _ h k (by omega)
theorem lp_hit {wI : Int32} : ∀ (m : Nat) (mo a : Int32), (lp N wI m mo a).2 = wI → ∃ k, k ≤ m ∧ it N k a = wI ∧ ∀ j, j < k → ¬ ((it N j a).toInt < 0 ∨ it N j a = wI) := by
  intro m
  induction m with
  | zero =>
    intro mo a h
    exact ⟨0, by omega, h, fun j hj => by omega⟩
  | succ m ih =>
    intro mo a h
    rw [lp] at h
    by_cases q : a.toInt < 0 ∨ a = wI
    · rw [if_pos q] at h
      exact ⟨0, by omega, h, fun j hj => by omega⟩
    · rw [if_neg q] at h
      obtain ⟨k, hk, h1, h2⟩ := ih _ _ h
      refine ⟨k + 1, by omega, h1, fun j hj => ?_⟩
      cases j with
      | zero => exact q
      | succ j => rw [it]; exact h2 j (by omega)
theorem lp_r (hN : MT n N) {wI : Int32} : ∀ (m : Nat) (mo a : Int32), 0 ≤ mo.toInt → mo.toInt < n → a.toInt < n → 0 ≤ (lp N wI m mo a).1.toInt ∧ (lp N wI m mo a).1.toInt < n := by
  intro m
  induction m with
  | zero => intro mo a h0 h1 h2; exact ⟨h0, h1⟩
  | succ m ih =>
    intro mo a h0 h1 h2
    rw [lp]
    by_cases q : a.toInt < 0 ∨ a = wI
    · rw [if_pos q]; exact ⟨h0, h1⟩
    · rw [if_neg q]
      refine ih _ _ ?_ ?_ (gw_r hN a).2
      · split <;> omega
      · split <;> omega
theorem lp_eq (hN : MT n N) {wI : Int32} (mo a : Int32) (ha : a.toInt < n) : ((lp N wI 12 mo a).2 = wI ↔ (lp N wI n mo a).2 = wI) ∧ ((lp N wI n mo a).2 = wI → lp N wI 12 mo a = lp N wI n mo a) := by
  have h12 := hN.1
  have st : ((lp N wI n mo a).2.toInt < 0 ∨ (lp N wI n mo a).2 = wI) → lp N wI 12 mo a = lp N wI n mo a := by
    intro h
    have := lp_stop n (12 - n) mo a h
    rw [show n + (12 - n) = 12 by omega] at this
    exact this
  refine ⟨⟨fun h => ?_, fun h => by rw [st (Or.inr h)]; exact h⟩, fun h => st (Or.inr h)⟩
  by_cases q : (lp N wI n mo a).2.toInt < 0 ∨ (lp N wI n mo a).2 = wI
  · rw [st q] at h; exact h
  · exfalso
    have h1 := lp_it n mo a q
    obtain ⟨k, hk, h2, h3⟩ := lp_hit 12 mo a h
    have hkn : n < k := by
      by_cases z : k ≤ n
      · exact absurd (Or.inr h2) (h1 k z)
      · omega
    have ne : ∀ i j : Nat, i < j → j ≤ n → it N i a ≠ it N j a := by
      intro i j hij hj e
      have e2 := it_add (N := N) i (k - j) a
      have e3 := it_add (N := N) j (k - j) a
      rw [show j + (k - j) = k by omega, ← e, ← e2, h2] at e3
      exact h3 (i + (k - j)) (by omega) (Or.inr e3.symm)
    have nd : ((List.range (n + 1)).map (fun k => it N k a)).Nodup := by
      refine List.pairwise_map.mpr ?_
      refine List.Pairwise.imp_of_mem (fun {i j} hi hj hij => ?_) List.pairwise_lt_range
      exact ne i j hij (by have := List.mem_range.mp hj; omega)
    have := nd_len nd (n := n) (fun v hv => by
      obtain ⟨i, hi, rfl⟩ := List.mem_map.mp hv
      have hi := List.mem_range.mp hi
      have h4 := h1 i (by omega)
      have h5 := it_r hN i a ha
      have h6 : ¬ (it N i a).toInt < 0 := fun z => h4 (Or.inl z)
      exact ⟨(it N i a).toInt.toNat, by omega, of_nI (by omega)⟩) h12
    rw [List.length_map, List.length_range] at this
    omega
theorem e_great (hR : Rr n M N) (hM : CI n M) (hN : MT n N) (hw : w < n) : Ok (F_X5_greatestInRingOf M (nI w)) (fun q => q = if (lp N (nI w) n (nI w) (gw N (nI w))).2 = nI w then (lp N (nI w) n (nI w) (gw N (nI w))).1 else -1) := by
  have h12 := hN.1
  unfold F_X5_greatestInRingOf
  refine ok_b (e_awaited hR hM hN hw) (fun q hq => ?_)
  subst hq
  obtain ⟨l1, l2⟩ := lp_eq hN (wI := nI w) (nI w) (gw N (nI w)) (gw_r hN _).2
  have key : ∀ (f : Nat) (g a v : Int32), -1 ≤ a.toInt → a.toInt < n → 0 ≤ v.toInt → v.toInt ≤ 12 → 12 - v.toInt < f → Ok (L_X5_greatestInRingOf_14 (fun v2_14 v3_14 v4_14 => (if v3_14 = nI w then some v2_14 else some (-1))) M (nI w) f g a v) (fun q => q = if (lp N (nI w) (12 - v.toInt.toNat) g a).2 = nI w then (lp N (nI w) (12 - v.toInt.toNat) g a).1 else -1) := by
    intro f
    induction f with
    | zero => intro g a v _ _ h0 h1 h2; omega
    | succ f ih =>
      intro g a v a0 a1 h0 h1 h2
      rw [L_X5_greatestInRingOf_14]
      have fin : ∀ p : Int32 × Int32, p = (g, a) → Ok (if a = nI w then some g else some (-1)) (fun q => q = if p.2 = nI w then p.1 else -1) := by
        intro p hp
        subst hp
        by_cases q : a = nI w
        · rw [if_pos q, if_pos q]; exact ok_s rfl
        · rw [if_neg q, if_neg q]; exact ok_s rfl
      refine ok_i (fun d => fin _ ?_) (fun d => ?_)
      · rw [ti_le, ti_n12] at d
        rw [show 12 - v.toInt.toNat = 0 by omega, lp]
      · rw [ti_le, ti_n12] at d
        have e1 := ti_inc (a := v) (by omega)
        rw [show 12 - v.toInt.toNat = (12 - (v + 1).toInt.toNat) + 1 by omega]
        refine ok_i (fun d2 => fin _ ?_) (fun d2 => ok_i (fun d3 => fin _ ?_) (fun d3 => ?_))
        · rw [lp, if_pos (Or.inl (by rw [d2, ti_m1]; omega))]
        · rw [lp, if_pos (Or.inr d3)]
        · rw [ti_eq, ti_m1] at d2
          obtain ⟨y, hy⟩ : ∃ y : Nat, a.toInt = y := ⟨a.toInt.toNat, by omega⟩
          have ha : a = nI y := of_nI hy
          have aw := e_awaited hR hM hN (show y < n by omega)
          rw [← ha] at aw
          refine ok_b aw (fun q hq => ?_)
          subst hq
          rw [lp, if_neg (show ¬ (a.toInt < 0 ∨ a = nI w) from fun z => z.elim (fun z => by omega) d3)]
          exact ih _ _ _ (gw_r hN a).1 (gw_r hN a).2 (by omega) (by omega) (by omega)
  refine ok_w (key 4000 (nI w) (gw N (nI w)) 0 (gw_r hN _).1 (gw_r hN _).2 (by rw [ti_n0]; omega) (by rw [ti_n0]; omega) (by rw [ti_n0]; omega)) (fun q hq => ?_)
  rw [hq, ti_n0]
  show (if (lp N (nI w) 12 (nI w) (gw N (nI w))).2 = nI w then (lp N (nI w) 12 (nI w) (gw N (nI w))).1 else -1) = _
  by_cases z : (lp N (nI w) n (nI w) (gw N (nI w))).2 = nI w
  · rw [l2 z]
  · rw [if_neg z, if_neg (fun y => z (l1.mp y))]
theorem e_r26 (hN : MT n N) {K : Int32 → Int32 → Int32 → Option (Int32 × Mem)} {wI : Int32} : ∀ (f : Nat) (g a v : Int32), -1 ≤ a.toInt → a.toInt < n → 0 ≤ v.toInt → v.toInt ≤ n → 12 - v.toInt < f → ∃ v', L_X6_ring_26 K N wI f g a v = K (lp N wI (n - v.toInt.toNat) g a).1 (lp N wI (n - v.toInt.toNat) g a).2 v' := by
  have h12 := hN.1
  intro f
  induction f with
  | zero => intro g a v _ _ h0 h1 h2; omega
  | succ f ih =>
    intro g a v a0 a1 h0 h1 h2
    rw [L_X6_ring_26]
    by_cases d : (n : Int) ≤ v.toInt
    · rw [if_pos (by rw [ti_le, hN.wk]; exact d), show n - v.toInt.toNat = 0 by omega, lp]
      exact ⟨v, rfl⟩
    · rw [if_neg (by rw [ti_le, hN.wk]; exact d)]
      have e1 := ti_inc (a := v) (by omega)
      rw [show n - v.toInt.toNat = (n - (v + 1).toInt.toNat) + 1 by omega, lp]
      by_cases d2 : a.toInt < 0
      · rw [if_pos (by rw [ti_lt, ti_n0]; exact d2), if_pos (Or.inl d2)]
        exact ⟨v, rfl⟩
      · rw [if_neg (by rw [ti_lt, ti_n0]; exact d2)]
        by_cases d3 : a = wI
        · rw [if_pos d3, if_pos (Or.inr d3)]
          exact ⟨v, rfl⟩
        · rw [if_neg d3, if_neg (show ¬ (a.toInt < 0 ∨ a = wI) from fun z => z.elim d2 d3), e_waitsOn hN (by omega) a1, bi_s, bi_s]
          by_cases d4 : g < a
          · rw [if_pos d4, if_neg (by rw [ti_lt] at d4; rw [ti_le]; omega)]
            exact ih _ _ _ (gw_r hN a).1 (gw_r hN a).2 (by omega) (by omega) (by omega)
          · rw [if_neg d4, if_pos (by rw [ti_lt] at d4; rw [ti_le]; omega)]
            exact ih _ _ _ (gw_r hN a).1 (gw_r hN a).2 (by omega) (by omega) (by omega)
theorem Rs_ring (hR : Rs n B C M N) : Ok2 (F_X5_ring M) (F_X6_ring N) (fun q q' => q.1 = q'.1 ∧ Rs n B C q.2 q'.2) := by
  unfold F_X5_ring F_X6_ring
  rw [bm_d]
  have h0 := Rs_0 (x := 0) hR
  generalize up2 N 0 0 0 = N0 at h0 ⊢
  have hI := h0.1
  have h12 := hI.1.1
  have key : ∀ (f f' : Nat) (v : Int32), 0 ≤ v.toInt → v.toInt ≤ n → 12 - v.toInt < f → 12 - v.toInt < f' → Ok2 (L_X5_ring_2 (fun M_1 v1_2 => some ((-1), M_1)) f M v) (L_X6_ring_7 (fun M_2 v1_7 => some ((-1), M_2)) f' N0 v) (fun q q' => q.1 = q'.1 ∧ Rs n B C q.2 q'.2) := by
    intro f
    induction f with
    | zero => intro f' v v0 v1 v2 v3; omega
    | succ f ih =>
      intro f' v v0 v1 v2 v3
      cases f' with
      | zero => omega
      | succ f' =>
        rw [L_X5_ring_2, L_X6_ring_7]
        by_cases d : (n : Int) ≤ v.toInt
        · rw [if_pos (by rw [ti_le, h0.2.1.cnt]; exact d), if_pos (by rw [ti_le, hI.1.wk]; exact d)]
          exact ok2_s ⟨rfl, h0⟩
        · rw [if_neg (by rw [ti_le, h0.2.1.cnt]; exact d), if_neg (by rw [ti_le, hI.1.wk]; exact d)]
          have e1 := ti_inc (a := v) (by omega)
          obtain ⟨y, hy⟩ : ∃ y : Nat, v.toInt = y := ⟨v.toInt.toNat, by omega⟩
          have hv : v = nI y := of_nI hy
          obtain ⟨q, eq, hq⟩ := e_great h0.2.2.1 h0.2.1 hI.1 (show y < n by omega)
          rw [← hv] at eq hq
          rw [eq, bi_s, e_waitsOn hI.1 (by omega) (by omega), bi_s]
          obtain ⟨v', hv'⟩ := e_r26 hI.1 (K := fun v2_26 v3_26 v4_26 => (if v3_26 = v then bi (F_X6_undo N0 v2_26 3) fun q_15 => some (v2_26, q_15) else L_X6_ring_7 (fun M_2 v1_7 => some ((-1), M_2)) f' N0 (v + 1))) (wI := v) 4000 v (gw N0 v) 0 (gw_r hI.1 v).1 (gw_r hI.1 v).2 (by rw [ti_n0]; omega) (by rw [ti_n0]; omega) (by rw [ti_n0]; omega)
          rw [hv', ti_n0, show n - (0 : Int).toNat = n from rfl]
          have hr := lp_r hI.1 (wI := v) n v (gw N0 v) v0 (by omega) (gw_r hI.1 v).2
          generalize lp N0 v n v (gw N0 v) = p at hq hr ⊢
          by_cases z : p.2 = v
          · rw [if_pos z] at hq
            rw [if_pos z]
            subst hq
            rw [if_neg (by rw [ti_eq, ti_m1]; omega), ti_in (by omega) (by omega), gd_t]
            obtain ⟨g, hg⟩ : ∃ g : Nat, p.1.toInt = g := ⟨p.1.toInt.toNat, by omega⟩
            have hpg : p.1 = nI g := of_nI hg
            have hpl : p.1.toNatClampNeg = g := cl_of hg
            have ue := undo_eq (to := 3) h0 (show g < n by omega) (by decide)
            rw [hpl]
            rw [← hpg] at ue
            exact ok2_l ue (fun a b hab => ok2_s ⟨rfl, hab⟩)
          · rw [if_neg z] at hq
            rw [if_neg z]
            subst hq
            rw [if_pos rfl]
            exact ih f' (v + 1) (by omega) (by omega) (by omega) (by omega)
  exact key 4000 4000 0 (by rw [ti_n0]; omega) (by rw [ti_n0]; omega) (by rw [ti_n0]; omega) (by rw [ti_n0]; omega)
end YX
