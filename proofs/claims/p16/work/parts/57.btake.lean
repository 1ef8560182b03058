section TX
variable {n : Nat} {M M' N N' : Mem} {w c k : Nat} {u v p1 p2 : Int32} {B : Int}
/-- one work's share in ahead -/
def ap (N : Mem) (p1 p2 : Int32) (k : Nat) : Int := if nI k = p2 then 0 else if N 10 k = p1 + 1 then (if N 10 p2.toNatClampNeg = p1 + 1 then (if N 11 p2.toNatClampNeg ≤ N 11 k then 0 else 1) else 1) else 0
theorem e_ahead (hN : MT n N) (h0 : 0 ≤ p2.toInt) (h1 : p2.toInt < 12) : Ok (F_X6_ahead N p1 p2) (fun q => q.toInt = sm (ap N p1 p2) n) := by
  unfold F_X6_ahead
  have g2 : inb p2 12 = true := ti_in h0 (by omega)
  have h12 := hN.1
  have key : ∀ (f : Nat) (u v : Int32), u.toInt = sm (ap N p1 p2) v.toInt.toNat → u.toInt ≤ v.toInt → 0 ≤ v.toInt → v.toInt ≤ n → 12 - v.toInt < f → Ok (L_X6_ahead_5 (fun v3_5 v4_5 => some v3_5) N p1 p2 f u v) (fun q => q.toInt = sm (ap N p1 p2) n) := by
    intro f
    induction f with
    | zero => intro u v _ _ h0 h1 h2; omega
    | succ f ih =>
      intro u v hu hu2 h0 h1 h2
      rw [L_X6_ahead_5]
      refine ok_i (fun c => ok_s ?_) (fun c => ?_)
      · rw [ti_le, hN.wk] at c
        rw [hu, show v.toInt.toNat = n by omega]
      · rw [ti_le, hN.wk] at c
        have e1 := ti_inc (a := v) (by omega)
        have e2 := ti_inc (a := u) (by omega)
        have es : (v + 1).toInt.toNat = v.toInt.toNat + 1 := by omega
        have g : inb v 12 = true := ti_in h0 (by omega)
        have hv : nI v.toInt.toNat = v := by rw [ti_eq, ti_nI (by omega)]; omega
        have z : ap N p1 p2 v.toInt.toNat = 0 → Ok (L_X6_ahead_5 (fun v3_5 v4_5 => some v3_5) N p1 p2 f (u + 0) (v + 1)) (fun q => q.toInt = sm (ap N p1 p2) n) := fun hz => ih _ _ (by rw [Int32.add_zero, es, sm, hz, hu]; omega) (by rw [Int32.add_zero]; omega) (by omega) (by omega) (by omega)
        have o : ap N p1 p2 v.toInt.toNat = 1 → Ok (L_X6_ahead_5 (fun v3_5 v4_5 => some v3_5) N p1 p2 f (u + 1) (v + 1)) (fun q => q.toInt = sm (ap N p1 p2) n) := fun hz => ih _ _ (by rw [es, sm, hz, e2, hu]) (by omega) (by omega) (by omega) (by omega)
        have evc : v.toNatClampNeg = v.toInt.toNat := ti_cl
        rw [evc]
        refine ok_i (fun d => z ?_) (fun d => ok_g g (ok_i (fun d2 => ok_g g2 (ok_i (fun d3 => ok_g g (ok_g g2 (ok_i (fun d4 => z ?_) (fun d4 => o ?_)))) (fun d3 => o ?_))) (fun d2 => z ?_)))
        · unfold ap; rw [hv, if_pos d]
        · unfold ap; rw [hv, if_neg d, if_pos d2, if_pos d3, if_pos d4]
        · unfold ap; rw [hv, if_neg d, if_pos d2, if_pos d3, if_neg d4]
        · unfold ap; rw [hv, if_neg d, if_pos d2, if_neg d3]
        · unfold ap; rw [hv, if_neg d, if_neg d2]
  exact key 4000 0 0 (by rw [ti_n0]; rfl) (by omega) (by rw [ti_n0]; omega) (by rw [ti_n0]; omega) (by rw [ti_n0]; omega)
theorem nI_inj {a b : Nat} (ha : a < 2147483648) (hb : b < 2147483648) : nI a = nI b ↔ a = b := by
  rw [ti_eq, ti_nI ha, ti_nI hb]
  omega
theorem w10_iff (hc : c < 10) : u = nI c + 1 ↔ u.toInt = c + 1 := by
  have e : (nI c + 1).toInt = c + 1 := by rw [ti_inc (by rw [ti_nI (by omega)]; omega), ti_nI (by omega)]
  rw [ti_eq, e]
theorem rd_mem (hD : RD n M N) (hn : n ≤ 12) (hc : c < 10) (hk : k < n) : nI k ∈ rl M c ↔ (N 10 k).toInt = c + 1 := by
  rw [(hD c hc).2]
  constructor
  · rintro ⟨x, h1, h2, h3⟩
    rw [nI_inj (by omega) (by omega)] at h2
    rw [h2]; exact h3
  · intro h
    exact ⟨k, hk, rfl, h⟩
theorem rd_k (hD : RD n M N) (hc : c < 10) : ∀ v, v ∈ rl M c → ∃ k, k < n ∧ v = nI k := by
  intro v hv
  obtain ⟨x, h1, h2, -⟩ := ((hD c hc).2 v).mp hv
  exact ⟨x, h1, h2⟩
theorem ah_out (hD : RD n M N) (hn : n ≤ 12) (hc : c < 10) (hw : w < n) (hx : nI w ∉ rl M c) : sm (ap N (nI c) (nI w)) n = (rl M c).length := by
  rw [← cnt_nd (n := n) (rl M c) (hD.nd hc) (rd_k hD hc) hn]
  refine sm_c n (fun i hi => ?_)
  have m := rd_mem hD hn hc hi
  have mw := rd_mem hD hn hc hw
  unfold ap
  rw [nI_cl (by omega)]
  by_cases e : nI i = nI w
  · rw [if_pos e, e, if_neg hx]
  · rw [if_neg e]
    by_cases e2 : N 10 i = nI c + 1
    · rw [if_pos e2, if_neg (fun q => hx (mw.mpr ((w10_iff hc).mp q))), if_pos (m.mpr ((w10_iff hc).mp e2))]
    · rw [if_neg e2, if_neg (fun q => e2 ((w10_iff hc).mpr (m.mp q)))]
theorem ah_in (hD : RD n M N) (hn : n ≤ 12) (hc : c < 10) (hw : w < n) {l1 l2 : List Int32} (hx : rl M c = l1 ++ nI w :: l2) : sm (ap N (nI c) (nI w)) n = l1.length := by
  have hp := (hD c hc).1
  have hnd := hD.nd hc
  have hk := rd_k hD hc
  have mw := (rd_mem hD hn hc hw).mp (by rw [hx]; exact List.mem_append_right _ (List.mem_cons_self ..))
  rw [hx] at hp hnd hk
  obtain ⟨p1, p2, p3⟩ := List.pairwise_append.mp hp
  obtain ⟨p4, -⟩ := List.pairwise_cons.mp p2
  have nd1 := (List.pairwise_append.mp hnd).1
  rw [← cnt_nd (n := n) l1 nd1 (fun v hv => hk v (List.mem_append_left _ hv)) hn]
  refine sm_c n (fun i hi => ?_)
  have m := rd_mem hD hn hc hi
  rw [hx] at m
  unfold ap
  rw [nI_cl (by omega), if_pos (show N 10 w = nI c + 1 from (w10_iff hc).mpr mw)]
  by_cases e : nI i = nI w
  · rw [if_pos e, e, if_neg]
    intro q
    have := p3 _ q (nI w) (List.mem_cons_self ..)
    omega
  · rw [if_neg e]
    by_cases e2 : N 10 i = nI c + 1
    · rw [if_pos e2]
      have hm := m.mpr ((w10_iff hc).mp e2)
      rcases List.mem_append.mp hm with q | q
      · have := p3 _ q (nI w) (List.mem_cons_self ..)
        rw [nI_cl (by omega), nI_cl (by omega)] at this
        rw [if_neg (by rw [ti_le]; omega), if_pos q]
      · rcases List.mem_cons.mp q with q | q
        · exact absurd q e
        · have := p4 _ q
          rw [nI_cl (by omega), nI_cl (by omega)] at this
          rw [if_pos (by rw [ti_le]; omega), if_neg]
          intro q2
          have h3 := p3 _ q2 (nI w) (List.mem_cons_self ..)
          rw [nI_cl (by omega), nI_cl (by omega)] at h3
          omega
    · rw [if_neg e2, if_neg (fun q => e2 ((w10_iff hc).mpr (m.mp (List.mem_append_left _ q))))]
theorem rl_get {i : Nat} (h : i < (M 7 c).toInt.toNat) : (rl M c)[i]? = some (M 8 (c * 12 + i)) := by
  unfold rl
  rw [List.getElem?_map, List.getElem?_range h]
  rfl
/-- the first in line, or nobody -/
def fst (M : Mem) (w c : Nat) : Prop := rl M c = [] ∨ ∃ l, rl M c = nI w :: l
theorem ah_0 (hD : RD n M N) (hn : n ≤ 12) (hc : c < 10) (hw : w < n) : sm (ap N (nI c) (nI w)) n = 0 ↔ fst M w c := by
  by_cases hx : nI w ∈ rl M c
  · obtain ⟨l1, l2, hl⟩ := List.append_of_mem hx
    rw [ah_in hD hn hc hw hl]
    unfold fst
    rw [hl]
    constructor
    · intro h
      have : l1 = [] := List.length_eq_zero_iff.mp (by omega)
      subst this
      exact Or.inr ⟨l2, rfl⟩
    · rintro (h | ⟨l, h⟩)
      · exact absurd h (by simp)
      · cases l1 with
        | nil => rfl
        | cons a l1 =>
          exfalso
          have hnd := hD.nd hc
          rw [hl] at hnd
          have h2 : a = nI w := by injection h
          subst h2
          have := (List.pairwise_cons.mp hnd).1 (nI w) (List.mem_append_right _ (List.mem_cons_self ..))
          exact this rfl
  · rw [ah_out hD hn hc hw hx]
    unfold fst
    constructor
    · intro h
      exact Or.inl (List.length_eq_zero_iff.mp (by omega))
    · rintro (h | ⟨l, h⟩)
      · rw [h]; rfl
      · rw [h] at hx
        exact absurd (List.mem_cons_self ..) hx
theorem e_free (hM : CI n M) (hD : RD n M N) (hn : n ≤ 12) (hc : c < 10) (hw : w < n) : Ok (F_X3_isFreeFor M (nI c) (nI w)) (fun q => (q = 1 ∧ M 5 c = -1 ∧ fst M w c) ∨ (q = 0 ∧ ¬ (M 5 c = -1 ∧ fst M w c))) := by
  unfold F_X3_isFreeFor
  have ec : (nI c).toInt = c := ti_nI (by omega)
  have ecl : (nI c).toNatClampNeg = c := nI_cl (by omega)
  have e0 : (0 : Int32).toNatClampNeg = 0 := by decide
  have h7 := hM.l7 c
  have hit : F_X2_item M 6 (nI c) 0 = some (if 0 < (M 7 c).toInt then M 8 (c * 12 + 0) else -1) := by
    rw [e_item rw_6 hM, ecl, e0, ti_n0]
    by_cases hl : 0 < (M 7 c).toInt
    · rw [if_pos ⟨⟨by omega, by omega⟩, by omega, hl⟩, if_pos hl]
    · rw [if_neg (fun q => hl q.2.2), if_neg hl]
  rw [hit, ecl, bi_s, ti_in (a := nI c) (n := ln 5) (by omega) (by rw [show ln 5 = 10 from rfl]; omega), gd_t]
  refine ok_i (fun a => ?_) (fun a => ok_s (Or.inr ⟨rfl, fun q => a q.1⟩))
  by_cases hl : 0 < (M 7 c).toInt
  · rw [if_pos hl]
    have hg := rl_get (M := M) (c := c) (i := 0) (by omega)
    have hne : rl M c ≠ [] := fun q => by rw [q] at hg; simp at hg
    obtain ⟨x, l, hxl⟩ := List.exists_cons_of_ne_nil hne
    have hx : M 8 (c * 12 + 0) = x := by
      rw [hxl] at hg
      exact (Option.some.inj hg).symm
    have hxk := rd_k hD hc x (by rw [hxl]; exact List.mem_cons_self ..)
    refine ok_i (fun b => ?_) (fun b => ok_i (fun d => ok_s (Or.inl ⟨rfl, a, Or.inr ⟨l, ?_⟩⟩)) (fun d => ok_s (Or.inr ⟨rfl, ?_⟩)))
    · exfalso
      obtain ⟨k, hk, e⟩ := hxk
      have b2 : M 8 (c * 12 + 0) = -1 := b
      rw [hx, e, ti_eq, ti_nI (by omega), ti_m1] at b2
      omega
    · have d2 : M 8 (c * 12 + 0) = nI w := d
      rw [hxl, ← hx, d2]
    · rintro ⟨-, q | ⟨l', q⟩⟩
      · exact hne q
      · rw [hxl] at q
        injection q with q1 q2
        exact d (show M 8 (c * 12 + 0) = nI w by rw [hx, q1])
  · rw [if_neg hl]
    refine ok_i (fun b => ok_s (Or.inl ⟨rfl, a, Or.inl ?_⟩)) (fun b => absurd rfl b)
    apply List.length_eq_zero_iff.mp
    rw [rl_len]
    omega
theorem Rr_take (h : Rr n M N) (hM : CI n M) (hN : MT n N) (hw : w < n) (hc : c < 10) (ho : (N 16 c).toInt = 0) (h10 : (N 10 w).toInt = 0 ∨ (N 10 w).toInt = c + 1) (m1 : rl M' c = (rl M c).filter (fun x => decide (¬ x = nI w))) (m2 : ∀ c', c' < 10 → c' ≠ c → rl M' c' = rl M c') (m5 : ∀ j, M' 5 j = if j = c then nI w else M 5 j) (m4 : ∀ j, M' 4 j = if j = c then M 3 c else M 4 j) (m3 : ∀ k j, k ≠ 4 → k ≠ 5 → k ≠ 7 → k ≠ 8 → M' k j = M k j) : Rr n M' (up2 (up2 N 16 c (nI w + 1)) 10 w 0) := by
  obtain ⟨a, b, cc, d, e, f⟩ := h
  have h12 := hN.1
  have nz : ∀ k j, k ≠ 16 → k ≠ 10 → up2 (up2 N 16 c (nI w + 1)) 10 w 0 k j = N k j := fun k j x y => by rw [up2_k y, up2_k x]
  have n10 : ∀ j, up2 (up2 N 16 c (nI w + 1)) 10 w 0 10 j = if j = w then 0 else N 10 j := fun j => by
    by_cases q : j = w
    · rw [if_pos q, q, up2_s]
    · rw [if_neg q, up2_j q, up2_k (by decide)]
  have n16 : ∀ j, up2 (up2 N 16 c (nI w + 1)) 10 w 0 16 j = if j = c then nI w + 1 else N 16 j := fun j => by
    rw [up2_k (by decide)]
    by_cases q : j = c
    · rw [if_pos q, q, up2_s]
    · rw [if_neg q, up2_j q]
  have hcl : cL (up2 (up2 N 16 c (nI w + 1)) 10 w 0) = cL N := cL_c (nz _ _ (by decide) (by decide)) (fun k j hk => nz _ _ (by omega) (by omega))
  have ew : (nI w + 1).toInt = w + 1 := by rw [ti_inc (by rw [ti_nI (by omega)]; omega), ti_nI (by omega)]
  have nc : ∀ x, x ∈ cL N → x.2.1.toNatClampNeg ≠ c := by
    intro x hx q
    obtain ⟨k, hk, rfl⟩ := fr_mem hx
    have h1 := e.1 _ hx
    have := hN.cb (j := k)
    rw [q, ho] at h1
    dsimp only at h1
    omega
  generalize up2 (up2 N 16 c (nI w + 1)) 10 w 0 = N' at nz n10 n16 hcl ⊢
  refine ⟨fun x hx => ?_, RB_c b (fun w' z j hz => m3 _ _ (by omega) (by omega) (by omega) (by omega)) (fun k j hk => nz _ _ (by omega) (by omega)), ⟨fun x hx => ?_, fun x hx => ?_, ?_, ?_, fun j hj => ?_⟩, fun x hx => ?_, ⟨fun x hx => ?_, fun x y hx hy hq => ?_⟩, fun x hx hq => ?_⟩
  · have e1 : ∀ z, M' (16 + 7 * x) z = M (16 + 7 * x) z := fun z => m3 _ _ (by omega) (by omega) (by omega) (by omega)
    simp only [e1]
    rw [nz 1 _ (by decide) (by decide), nz 2 _ (by decide) (by decide), nz 3 _ (by decide) (by decide), nz 4 _ (by decide) (by decide), nz 5 _ (by decide) (by decide), nz 6 _ (by decide) (by decide), nz 7 _ (by decide) (by decide), nz 8 _ (by decide) (by decide), nz 9 _ (by decide) (by decide)]
    exact a x hx
  · rw [m3 3 _ (by decide) (by decide) (by decide) (by decide), nz 17 _ (by decide) (by decide), m5, n16]
    refine ⟨(cc.1 x hx).1, ?_⟩
    by_cases q : x = c
    · rw [if_pos q, if_pos q, ew, ti_nI (by omega)]; omega
    · rw [if_neg q, if_neg q]; exact (cc.1 x hx).2
  · rw [m3 10 _ (by decide) (by decide) (by decide) (by decide), m3 11 _ (by decide) (by decide) (by decide) (by decide), nz 18 _ (by decide) (by decide), nz 19 _ (by decide) (by decide)]; exact cc.2.1 x hx
  · rw [m3 9 _ (by decide) (by decide) (by decide) (by decide), nz 0 _ (by decide) (by decide)]; exact cc.2.2.1
  · rw [m3 14 _ (by decide) (by decide) (by decide) (by decide), nz 0 _ (by decide) (by decide)]; exact cc.2.2.2.1
  · rw [m3 15 _ (by decide) (by decide) (by decide) (by decide), nz 23 _ (by decide) (by decide)]; exact cc.2.2.2.2 j hj
  · obtain ⟨d1, d2⟩ := d x hx
    have n11 : ∀ j, N' 11 j = N 11 j := fun j => nz 11 j (by decide) (by decide)
    by_cases q : x = c
    · subst q
      rw [m1]
      refine ⟨(d1.filter _).imp (fun {p q} hpq => by rw [n11, n11]; exact hpq), fun y => ?_⟩
      rw [List.mem_filter, d2 y, decide_eq_true_eq]
      constructor
      · rintro ⟨⟨u, h1, h2, h3⟩, h4⟩
        refine ⟨u, h1, h2, ?_⟩
        rw [n10, if_neg (fun q => h4 (by rw [h2, q]))]
        exact h3
      · rintro ⟨u, h1, h2, h3⟩
        rw [n10] at h3
        by_cases hu : u = w
        · rw [if_pos hu, ti_n0] at h3
          omega
        · rw [if_neg hu] at h3
          refine ⟨⟨u, h1, h2, h3⟩, fun q => hu ?_⟩
          rw [h2, nI_inj (by omega) (by omega)] at q
          exact q
    · rw [m2 x hx q]
      refine ⟨d1.imp (fun {p q} hpq => by rw [n11, n11]; exact hpq), fun y => ?_⟩
      rw [d2 y]
      constructor
      · rintro ⟨u, h1, h2, h3⟩
        refine ⟨u, h1, h2, ?_⟩
        rw [n10, if_neg (fun q2 => by subst q2; omega)]
        exact h3
      · rintro ⟨u, h1, h2, h3⟩
        rw [n10] at h3
        by_cases hu : u = w
        · rw [if_pos hu, ti_n0] at h3
          omega
        · rw [if_neg hu] at h3
          exact ⟨u, h1, h2, h3⟩
  · rw [hcl] at hx
    rw [n16, if_neg (nc x hx)]
    exact e.1 x hx
  · rw [n16] at hq
    rw [m4, hcl, show N' 17 = N 17 from funext (fun j => nz 17 j (by decide) (by decide))]
    by_cases q : x = c
    · rw [if_pos q, q, ru_none (fun z hz _ => nc z hz)]
      exact (cc.1 c hc).1
    · rw [if_neg q] at hq ⊢
      exact e.2 x y hx hy hq
  · rw [n10] at hq
    by_cases q : x = w
    · rw [if_pos q, ti_n0] at hq
      exact absurd rfl hq
    · rw [if_neg q] at hq
      unfold spn gtn
      rw [n10, if_neg q, nz 3 _ (by decide) (by decide), nz 4 _ (by decide) (by decide), nz 5 _ (by decide) (by decide), nz 7 _ (by decide) (by decide), nz 11 _ (by decide) (by decide), nz 12 _ (by decide) (by decide), nz 13 _ (by decide) (by decide), nz 0 _ (by decide) (by decide)]
      exact f x hx hq
theorem RG_take (h : RG N) (hw : w < 12) : RG (up2 (up2 N 16 c (nI w + 1)) 10 w 0) := by
  have ew : (nI w + 1).toInt = w + 1 := by rw [ti_inc (by rw [ti_nI (by omega)]; omega), ti_nI (by omega)]
  intro x y hx hy e
  by_cases q : x = w
  · rw [q, up2_s, ti_n0] at e
    omega
  · rw [up2_j q, up2_k (by decide)] at e
    rw [up2_k (by decide)]
    by_cases q2 : y = c
    · rw [q2, up2_s, ew]; omega
    · rw [up2_j q2]
      exact h x y hx hy e
theorem Rr_wait (h : Rr n M N) (hM : CI n M) (hN : MT n N) (hw : w < n) (hc : c < 10) (h10 : (N 10 w).toInt = 0) (hk0 : 0 ≤ (N 0 13).toInt) (hk1 : (N 0 13).toInt ≤ 2147483646) (hf : (N 3 w).toInt = 0 ∧ (N 7 w).toInt ≠ 0 ∧ (N 5 w).toInt < (N 12 (10 * w + spn N w)).toInt ∧ (N 13 (4 * (10 * w + spn N w) + gtn N w)).toInt = c) (m1 : rl M' c = rl M c ++ [nI w]) (m2 : ∀ c', c' < 10 → c' ≠ c → rl M' c' = rl M c') (m3 : ∀ k j, k ≠ 7 → k ≠ 8 → M' k j = M k j) : Rr n M' (waN N (nI w) (nI c)) := by
  obtain ⟨a, b, cc, d, e, f⟩ := h
  have h12 := hN.1
  have eck := ti_inc (a := N 0 13) hk1
  have ec : (nI c + 1).toInt = c + 1 := by rw [ti_inc (by rw [ti_nI (by omega)]; omega), ti_nI (by omega)]
  have nz : ∀ k j, k ≠ 11 → k ≠ 10 → (k ≠ 0 ∨ j ≠ 13) → waN N (nI w) (nI c) k j = N k j := fun k j x y z => by unfold waN; rw [up2_e, if_neg (by omega), up2_k x, up2_k y]
  have n10 : ∀ j, waN N (nI w) (nI c) 10 j = if j = w then nI c + 1 else N 10 j := fun j => by
    unfold waN
    rw [up2_k (by decide), up2_k (by decide), nI_cl (by omega)]
    by_cases q : j = w
    · rw [if_pos q, q, up2_s]
    · rw [if_neg q, up2_j q]
  have n11 : ∀ j, waN N (nI w) (nI c) 11 j = if j = w then N 0 13 else N 11 j := fun j => by
    unfold waN
    rw [up2_k (by decide), nI_cl (by omega)]
    by_cases q : j = w
    · rw [if_pos q, q, up2_s]
    · rw [if_neg q, up2_j q, up2_k (by decide)]
  have n13 : waN N (nI w) (nI c) 0 13 = N 0 13 + 1 := by unfold waN; rw [up2_s]
  have hcl : cL (waN N (nI w) (nI c)) = cL N := cL_c (nz _ _ (by decide) (by decide) (Or.inr (by decide))) (fun k j hk => nz _ _ (by omega) (by omega) (Or.inl (by omega)))
  generalize waN N (nI w) (nI c) = N' at nz n10 n11 n13 hcl ⊢
  have ny : ∀ k j, k ≠ 11 → k ≠ 10 → k ≠ 0 → N' k j = N k j := fun k j x y z => nz k j x y (Or.inl z)
  have hnw : ∀ y, y < 10 → nI w ∉ rl M y := by
    intro y hy q
    have := (rd_mem d h12 hy hw).mp q
    omega
  refine ⟨fun x hx => ?_, RB_c b (fun w' z j hz => m3 _ _ (by omega) (by omega)) (fun k j hk => ny _ _ (by omega) (by omega) (by omega)), RC_c cc (fun k j hk => m3 _ _ (by omega) (by omega)) (fun k j hk => ny _ _ (by omega) (by omega) (by omega)) (nz _ _ (by decide) (by decide) (Or.inr (by decide))) (nz _ _ (by decide) (by decide) (Or.inr (by decide))), fun x hx => ?_, RE_c e (fun j => m3 _ _ (by decide) (by decide)) (fun j => ny _ _ (by decide) (by decide) (by decide)) (fun j => ny _ _ (by decide) (by decide) (by decide)) hcl, fun x hx hq => ?_⟩
  · have e1 : ∀ z, M' (16 + 7 * x) z = M (16 + 7 * x) z := fun z => m3 _ _ (by omega) (by omega)
    simp only [e1]
    rw [ny 1 _ (by decide) (by decide) (by decide), ny 2 _ (by decide) (by decide) (by decide), ny 3 _ (by decide) (by decide) (by decide), ny 4 _ (by decide) (by decide) (by decide), ny 5 _ (by decide) (by decide) (by decide), ny 6 _ (by decide) (by decide) (by decide), ny 7 _ (by decide) (by decide) (by decide), ny 8 _ (by decide) (by decide) (by decide), ny 9 _ (by decide) (by decide) (by decide)]
    exact a x hx
  · obtain ⟨d1, d2⟩ := d x hx
    have old : (rl M x).Pairwise (fun a b => (N' 11 a.toNatClampNeg).toInt < (N' 11 b.toNatClampNeg).toInt) := by
      refine List.Pairwise.imp_of_mem (fun {p q} hp hq hpq => ?_) d1
      have ne : ∀ z, z ∈ rl M x → N' 11 z.toNatClampNeg = N 11 z.toNatClampNeg := by
        intro z hz
        obtain ⟨k, hk, rfl⟩ := rd_k d hx z hz
        rw [n11, if_neg]
        intro q2
        rw [nI_cl (by omega)] at q2
        rw [q2] at hz
        exact hnw x hx hz
      rw [ne p hp, ne q hq]
      exact hpq
    by_cases q : x = c
    · subst q
      rw [m1]
      refine ⟨List.pairwise_append.mpr ⟨old, List.pairwise_singleton .., fun p hp r hr => ?_⟩, fun y => ?_⟩
      · rw [List.mem_singleton] at hr
        subst hr
        obtain ⟨k, hk, rfl⟩ := rd_k d hx p hp
        have hkw : k ≠ w := fun q2 => by subst q2; exact hnw x hx hp
        have hf2 := f k (by omega) (by have := (rd_mem d h12 hx hk).mp hp; omega)
        rw [nI_cl (by omega), nI_cl (by omega), n11, if_neg hkw, n11, if_pos rfl]
        exact hf2.2.2.2.2.2.2
      · rw [List.mem_append, List.mem_singleton, d2 y]
        constructor
        · rintro (⟨u, h1, h2, h3⟩ | h1)
          · refine ⟨u, h1, h2, ?_⟩
            rw [n10, if_neg (fun q2 => by subst q2; omega)]
            exact h3
          · exact ⟨w, hw, h1, by rw [n10, if_pos rfl, ec]⟩
        · rintro ⟨u, h1, h2, h3⟩
          by_cases hu : u = w
          · right; rw [h2, hu]
          · rw [n10, if_neg hu] at h3
            exact Or.inl ⟨u, h1, h2, h3⟩
    · rw [m2 x hx q]
      refine ⟨old, fun y => ?_⟩
      rw [d2 y]
      constructor
      · rintro ⟨u, h1, h2, h3⟩
        refine ⟨u, h1, h2, ?_⟩
        rw [n10, if_neg (fun q2 => by subst q2; omega)]
        exact h3
      · rintro ⟨u, h1, h2, h3⟩
        rw [n10] at h3
        by_cases hu : u = w
        · rw [if_pos hu, ec] at h3
          omega
        · rw [if_neg hu] at h3
          exact ⟨u, h1, h2, h3⟩
  · unfold spn gtn
    rw [ny 3 _ (by decide) (by decide) (by decide), ny 4 _ (by decide) (by decide) (by decide), ny 5 _ (by decide) (by decide) (by decide), ny 7 _ (by decide) (by decide) (by decide), ny 12 _ (by decide) (by decide) (by decide), ny 13 _ (by decide) (by decide) (by decide), n13, eck]
    by_cases hu : x = w
    · subst hu
      rw [n10, if_pos rfl, n11, if_pos rfl, ec]
      obtain ⟨f1, f2, f3, f4⟩ := hf
      exact ⟨hw, f1, f2, f3, by unfold spn gtn at f4; rw [f4], hk0, by omega⟩
    · rw [n10, if_neg hu] at hq
      rw [n10, if_neg hu, n11, if_neg hu]
      obtain ⟨f1, f2, f3, f4, f5, f6, f7⟩ := f x hx hq
      exact ⟨f1, f2, f3, f4, f5, f6, by omega⟩
theorem RG_wait (h : RG N) (hw : w < 12) (hc : c < 10) (ho : (N 16 c).toInt ≠ w + 1) : RG (waN N (nI w) (nI c)) := by
  have ec : (nI c + 1).toInt = c + 1 := by rw [ti_inc (by rw [ti_nI (by omega)]; omega), ti_nI (by omega)]
  intro x y hx hy e
  unfold waN at e ⊢
  rw [up2_k (by decide), up2_k (by decide), nI_cl (by omega)] at e
  rw [up2_k (by decide), up2_k (by decide), up2_k (by decide)]
  by_cases q : x = w
  · rw [q, up2_s, ec] at e
    have : y = c := by omega
    rw [this, q]; exact ho
  · rw [up2_j q] at e
    exact h x y hx hy e
end TX
