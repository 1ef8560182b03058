section RU
variable {n : Nat} {M M' N N' : Mem} {w c : Nat} {u v : Int32} {l : List Ce} {g g' : Nat → Int32}
theorem ru_cons {e : Ce} : ru u (e :: l) g = if e.1 = u then upd (ru u l g) e.2.1.toNatClampNeg e.2.2 else ru u l g := rfl
theorem ru_app {k : List Ce} : ru u (l ++ k) g = ru u l (ru u k g) := by unfold ru; rw [List.foldr_append]
theorem ru_none (h : ∀ e, e ∈ l → e.1 = u → e.2.1.toNatClampNeg ≠ c) : ru u l g c = g c := by
  induction l with
  | nil => rfl
  | cons e l ih =>
    rw [ru_cons]
    have ih := ih (fun x hx => h x (List.mem_cons_of_mem _ hx))
    by_cases he : e.1 = u
    · rw [if_pos he, upd_un (fun q => h e (List.mem_cons_self ..) he q.symm)]
      exact ih
    · rw [if_neg he]
      exact ih
theorem ru_two : (∃ x, ∀ g, ru u l g c = x) ∨ ∀ g, ru u l g c = g c := by
  induction l with
  | nil => exact Or.inr (fun g => rfl)
  | cons e l ih =>
    by_cases he : e.1 = u
    · by_cases hc : c = e.2.1.toNatClampNeg
      · refine Or.inl ⟨e.2.2, fun g => ?_⟩
        rw [ru_cons, if_pos he, hc, upd_us]
      · rcases ih with ⟨x, hx⟩ | hx
        · refine Or.inl ⟨x, fun g => ?_⟩
          rw [ru_cons, if_pos he, upd_un hc]; exact hx g
        · refine Or.inr (fun g => ?_)
          rw [ru_cons, if_pos he, upd_un hc]; exact hx g
    · rcases ih with ⟨x, hx⟩ | hx
      · refine Or.inl ⟨x, fun g => ?_⟩
        rw [ru_cons, if_neg he]; exact hx g
      · refine Or.inr (fun g => ?_)
        rw [ru_cons, if_neg he]; exact hx g
theorem ru_at (h : g c = g' c) : ru u l g c = ru u l g' c := by
  rcases ru_two (u := u) (l := l) (c := c) with ⟨x, hx⟩ | hx
  · rw [hx, hx]
  · rw [hx, hx, h]
theorem ru_fl (h : u ≠ v) : ru u (l.filter (fun e => decide (¬ e.1 = v))) g = ru u l g := by
  induction l with
  | nil => rfl
  | cons e l ih =>
    by_cases he : e.1 = v
    · rw [List.filter_cons_of_neg (by simp [he]), ih, ru_cons, if_neg (fun q => h (q.symm.trans he))]
    · rw [List.filter_cons_of_pos (by simp [he]), ru_cons, ru_cons, ih]
theorem ru_own (hi : ∀ i : Nat, i ≤ 10 → True) : ∀ i : Nat, i ≤ 10 → ru u (own u N i) g c = if c < i ∧ N 16 c = u + 1 then N 17 c else g c := by
  intro i
  induction i generalizing g with
  | zero => intro _; rw [if_neg (by omega)]; rfl
  | succ i ih =>
    intro hi10
    rw [own_s, ru_app, ih (by omega)]
    by_cases ho : N 16 i = u + 1
    · rw [if_pos ho]
      show (if c < i ∧ N 16 c = u + 1 then N 17 c else ru u [(u, nI i, N 17 i)] g c) = _
      rw [ru_cons, if_pos rfl]
      by_cases hc : c = i
      · subst hc
        rw [if_neg (by omega), if_pos ⟨by omega, ho⟩]
        show upd _ (nI c).toNatClampNeg _ c = _
        rw [nI_cl (by omega), upd_us]
      · have e9 : (c < i) ↔ (c < i + 1) := by omega
        simp only [e9]
        congr 1
        show upd _ (nI i).toNatClampNeg _ c = _
        rw [nI_cl (by omega), upd_un hc]
        rfl
    · rw [if_neg ho]
      by_cases hc : c = i
      · subst hc
        rw [if_neg (by omega), if_neg (fun q => ho q.2)]
        rfl
      · have e9 : (c < i) ↔ (c < i + 1) := by omega
        simp only [e9]
        rfl
theorem ru_ow2 (h : u ≠ v) : ∀ i : Nat, ru u (own v N i) g = g := by
  intro i
  induction i generalizing g with
  | zero => rfl
  | succ i ih =>
    rw [own_s, ru_app, ih]
    by_cases ho : N 16 i = v + 1
    · rw [if_pos ho, ru_cons, if_neg (fun q => h q.symm)]; rfl
    · rw [if_neg ho]; rfl
theorem own_in {e : Ce} : ∀ i : Nat, e ∈ own u N i → e.1 = u ∧ ∃ c, c < i ∧ e.2.1 = nI c ∧ N 16 c = u + 1 := by
  intro i
  induction i with
  | zero => intro h; cases h
  | succ i ih =>
    intro h
    rw [own_s] at h
    rcases List.mem_append.mp h with h | h
    · obtain ⟨h1, c, h2, h3⟩ := ih h
      exact ⟨h1, c, by omega, h3⟩
    · by_cases ho : N 16 i = u + 1
      · rw [if_pos ho] at h
        rw [List.mem_singleton] at h
        subst h
        exact ⟨rfl, i, by omega, rfl, ho⟩
      · rw [if_neg ho] at h
        cases h
theorem hold_iff (hC : RC M N) (hM : CI n M) (hN : MT n N) (hc : c < 10) (hw : w < 12) : M 5 c = nI w ↔ (N 16 c).toInt = w + 1 := by
  have h := (hC.1 c hc).2
  rw [ti_eq, ti_nI (by omega)]
  omega
theorem own_iff (hN : MT n N) (hw : w < 12) : N 16 c = nI w + 1 ↔ (N 16 c).toInt = w + 1 := by
  have e : (nI w + 1).toInt = w + 1 := by rw [ti_inc (by rw [ti_nI (by omega)]; omega), ti_nI (by omega)]
  rw [ti_eq, e]
theorem Rr_rest (h : Rr n M N) (hM : CI n M) (hN : MT n N) (hw : w < 12) (m1 : ∀ k j, k ≠ 3 → M' k j = M k j) (m2 : ∀ j, M' 3 j = if j < 10 ∧ M 5 j = nI w then M 4 j else M 3 j) (n1 : ∀ k j, k ≠ 17 → N' k j = N k j) (n2 : N' 17 = ru (nI w) (cL N) (N 17)) : Rr n M' N' := by
  obtain ⟨a, b, c, d, e, f⟩ := h
  have hcl : cL N' = cL N := cL_c (n1 _ _ (by decide)) (fun k j hk => n1 _ _ (by omega))
  have no : ∀ c : Nat, c < 10 → ∀ u : Nat, u < 12 → (N 16 c).toInt ≠ u + 1 → ∀ g : Nat → Int32, ru (nI u) (cL N) g c = g c := by
    intro c hc u hu hne g
    refine ru_none (fun x hx h1 h2 => hne ?_)
    have := e.1 x hx
    rw [h2, h1, ti_nI (by omega)] at this
    exact this
  refine ⟨fun u hu => ?_, RB_c b (fun w' z j hz => m1 _ _ (by omega)) (fun k j hk => n1 _ _ (by omega)), ⟨fun x hx => ?_, fun k hk => ?_, ?_, ?_, fun j hj => ?_⟩, RD_c d (fun k j hk => m1 _ _ (by omega)) (fun k j hk => n1 _ _ (by omega)), ⟨fun x hx => ?_, fun x u hx hu ho => ?_⟩, RF_c f (fun j => n1 _ _ (by decide)) (fun j => n1 _ _ (by decide)) (fun j => n1 _ _ (by decide)) (fun j => n1 _ _ (by decide)) (fun j => n1 _ _ (by decide)) (fun j => n1 _ _ (by decide)) (fun j => n1 _ _ (by decide)) (fun j => n1 _ _ (by decide)) (n1 _ _ (by decide))⟩
  · have e1 : ∀ z, M' (16 + 7 * u) z = M (16 + 7 * u) z := fun z => m1 _ _ (by omega)
    simp only [e1]
    rw [n1 1 _ (by decide), n1 2 _ (by decide), n1 3 _ (by decide), n1 4 _ (by decide), n1 5 _ (by decide), n1 6 _ (by decide), n1 7 _ (by decide), n1 8 _ (by decide), n1 9 _ (by decide)]
    exact a u hu
  · rw [m1 5 _ (by decide), n1 16 _ (by decide), m2, n2]
    refine ⟨?_, (c.1 x hx).2⟩
    by_cases ho : M 5 x = nI w
    · rw [if_pos ⟨hx, ho⟩]
      exact e.2 x w hx hw ((hold_iff c hM hN hx hw).mp ho)
    · rw [if_neg (fun q => ho q.2), no x hx w hw (fun q => ho ((hold_iff c hM hN hx hw).mpr q))]
      exact (c.1 x hx).1
  · rw [m1 10 _ (by decide), m1 11 _ (by decide), n1 18 _ (by decide), n1 19 _ (by decide)]; exact c.2.1 k hk
  · rw [m1 9 _ (by decide), n1 0 _ (by decide)]; exact c.2.2.1
  · rw [m1 14 _ (by decide), n1 0 _ (by decide)]; exact c.2.2.2.1
  · rw [m1 15 _ (by decide), n1 23 _ (by decide)]; exact c.2.2.2.2 j hj
  · rw [hcl] at hx
    rw [n1 16 _ (by decide)]
    exact e.1 x hx
  · rw [n1 16 _ (by decide)] at ho
    rw [m1 4 _ (by decide), hcl, n2, e.2 x u hx hu ho]
    rcases ru_two (u := nI u) (l := cL N) (c := x) with ⟨y, hy⟩ | hy
    · rw [hy, hy]
    · rw [hy, hy]
      by_cases hu2 : u = w
      · subst hu2
        exact (hy _).symm
      · exact (no x hx w hw (by omega) _).symm
theorem Rr_free (h : Rr n M N) (hM : CI n M) (hN : MT n N) (hw : w < 12) {wI : Int32} (hwI : wI.toInt = (w : Int)) (hR : ReC (nI w) M M') (hF : FrP wI n N N') : Rr n M' N' := by
  obtain ⟨a, b, c, d, e, f⟩ := h
  obtain ⟨r1, r2, r3⟩ := hR
  obtain ⟨-, f1, f2, f3, f4⟩ := hF
  have hI : wI = nI w := of_nI hwI
  subst hI
  have n1 : ∀ k j, k ≠ 16 → k ≠ 10 → k ≠ 20 → k ≠ 21 → k ≠ 22 → k ≠ 0 → N' k j = N k j := fun k j x y z t s q => f1 k j x y z t s (Or.inl q)
  have n3 : ∀ j, N' 10 j = if j = w then 0 else N 10 j := fun j => by rw [f3, nI_cl (by omega)]
  refine ⟨fun u hu => ?_, RB_c b (fun w' z j hz => r3 _ _ (by omega) (by omega) (by omega)) (fun k j hk => n1 _ _ (by omega) (by omega) (by omega) (by omega) (by omega) (by omega)), ⟨fun x hx => ?_, fun k hk => ?_, ?_, ?_, fun j hj => ?_⟩, fun x hx => ?_, ⟨fun x hx => ?_, fun x u hx hu ho => ?_⟩, fun u hu hn => ?_⟩
  · have e1 : ∀ z, M' (16 + 7 * u) z = M (16 + 7 * u) z := fun z => r3 _ _ (by omega) (by omega) (by omega)
    simp only [e1]
    rw [n1 1 _ (by decide) (by decide) (by decide) (by decide) (by decide) (by decide), n1 2 _ (by decide) (by decide) (by decide) (by decide) (by decide) (by decide), n1 3 _ (by decide) (by decide) (by decide) (by decide) (by decide) (by decide), n1 4 _ (by decide) (by decide) (by decide) (by decide) (by decide) (by decide), n1 5 _ (by decide) (by decide) (by decide) (by decide) (by decide) (by decide), n1 6 _ (by decide) (by decide) (by decide) (by decide) (by decide) (by decide), n1 7 _ (by decide) (by decide) (by decide) (by decide) (by decide) (by decide), n1 8 _ (by decide) (by decide) (by decide) (by decide) (by decide) (by decide), n1 9 _ (by decide) (by decide) (by decide) (by decide) (by decide) (by decide)]
    exact a u hu
  · rw [r3 3 _ (by decide) (by decide) (by decide), n1 17 _ (by decide) (by decide) (by decide) (by decide) (by decide) (by decide), r2, f2]
    refine ⟨(c.1 x hx).1, ?_⟩
    by_cases ho : M 5 x = nI w
    · rw [if_pos ⟨hx, ho⟩, if_pos ⟨hx, (own_iff hN hw).mpr ((hold_iff c hM hN hx hw).mp ho)⟩, ti_m1, ti_n0]; rfl
    · rw [if_neg (fun q => ho q.2), if_neg (fun q => ho ((hold_iff c hM hN hx hw).mpr ((own_iff hN hw).mp q.2)))]
      exact (c.1 x hx).2
  · rw [r3 10 _ (by decide) (by decide) (by decide), r3 11 _ (by decide) (by decide) (by decide), n1 18 _ (by decide) (by decide) (by decide) (by decide) (by decide) (by decide), n1 19 _ (by decide) (by decide) (by decide) (by decide) (by decide) (by decide)]; exact c.2.1 k hk
  · rw [r3 9 _ (by decide) (by decide) (by decide), f1 0 22 (by decide) (by decide) (by decide) (by decide) (by decide) (Or.inr (by decide))]; exact c.2.2.1
  · rw [r3 14 _ (by decide) (by decide) (by decide), f1 0 27 (by decide) (by decide) (by decide) (by decide) (by decide) (Or.inr (by decide))]; exact c.2.2.2.1
  · rw [r3 15 _ (by decide) (by decide) (by decide), n1 23 _ (by decide) (by decide) (by decide) (by decide) (by decide) (by decide)]; exact c.2.2.2.2 j hj
  · obtain ⟨d1, d2⟩ := d x hx
    rw [r1 x hx]
    refine ⟨(d1.filter _).imp (fun {p q} hpq => ?_), fun y => ?_⟩
    · rw [n1 11 _ (by decide) (by decide) (by decide) (by decide) (by decide) (by decide), n1 11 _ (by decide) (by decide) (by decide) (by decide) (by decide) (by decide)]
      exact hpq
    · rw [List.mem_filter, d2 y, decide_eq_true_eq]
      constructor
      · rintro ⟨⟨u, h1, h2, h3⟩, h4⟩
        refine ⟨u, h1, h2, ?_⟩
        rw [n3, if_neg (fun q => h4 (by rw [h2, q]))]
        exact h3
      · rintro ⟨u, h1, h2, h3⟩
        rw [n3] at h3
        by_cases hu : u = w
        · rw [if_pos hu, ti_n0] at h3
          omega
        · rw [if_neg hu] at h3
          refine ⟨⟨u, h1, h2, h3⟩, fun q => hu ?_⟩
          rw [h2, ti_eq, ti_nI (by have := hN.1; omega), ti_nI (by omega)] at q
          omega
  · rw [f4, List.mem_filter, decide_eq_true_eq] at hx
    have h1 := e.1 x hx.1
    rw [f2, if_neg (fun q => hx.2 ?_)]
    · exact h1
    · have h3 := (own_iff hN hw).mp q.2
      rw [ti_eq, ti_nI (by omega)]
      omega
  · rw [f2] at ho
    by_cases hq : x < 10 ∧ N 16 x = nI w + 1
    · rw [if_pos hq, ti_n0] at ho
      omega
    · rw [if_neg hq] at ho
      have hne : u ≠ w := fun q => hq ⟨hx, (own_iff hN hw).mpr (by omega)⟩
      rw [r3 4 _ (by decide) (by decide) (by decide), f4, show N' 17 = N 17 from funext (fun j => n1 17 j (by decide) (by decide) (by decide) (by decide) (by decide) (by decide)), ru_fl (fun q => hne (by rw [ti_eq, ti_nI (by omega), ti_nI (by omega)] at q; omega))]
      exact e.2 x u hx hu ho
  · rw [n3] at hn
    by_cases hq : u = w
    · rw [if_pos hq, ti_n0] at hn
      exact absurd rfl hn
    · rw [if_neg hq] at hn
      unfold spn gtn
      rw [n3, if_neg hq, n1 3 _ (by decide) (by decide) (by decide) (by decide) (by decide) (by decide), n1 4 _ (by decide) (by decide) (by decide) (by decide) (by decide) (by decide), n1 5 _ (by decide) (by decide) (by decide) (by decide) (by decide) (by decide), n1 7 _ (by decide) (by decide) (by decide) (by decide) (by decide) (by decide), n1 11 _ (by decide) (by decide) (by decide) (by decide) (by decide) (by decide), n1 12 _ (by decide) (by decide) (by decide) (by decide) (by decide) (by decide), n1 13 _ (by decide) (by decide) (by decide) (by decide) (by decide) (by decide), f1 0 13 (by decide) (by decide) (by decide) (by decide) (by decide) (Or.inr (by decide))]
      exact f u hu hn
theorem Rr_undo (h : Rr n M N) (hM : CI n M) (hN : MT n N) (hw : w < 12) {wI to : Int32} (hwI : wI.toInt = (w : Int)) (hU : UnC w to M M') (hV : UdP wI to n N N') : Rr n M' N' := by
  obtain ⟨M1, M2, m1, m2, hR, rfl⟩ := hU
  obtain ⟨N1, N2, hN1, a1, a2, hF, rfl⟩ := hV
  have hI : wI = nI w := of_nI hwI
  have hM1 : CI n M1 := by
    refine ⟨hM.1, fun k j => ?_⟩
    by_cases hk : k = 3
    · subst hk; exact tc_f (by decide)
    · rw [m1 k j hk]; exact hM.2 k j
  have r1 := Rr_rest h hM hN hw m1 m2 a1 (by rw [← hI]; exact a2)
  have r2 := Rr_free r1 hM1 hN1 hw hwI hR hF
  rw [cl_of hwI]
  refine Rr_fld r2 (Or.inl ⟨rfl, rfl⟩) (RF_w r2.2.2.2.2.2 (Or.inl rfl) ?_)
  rw [hF.2.2.2.1, cl_of hwI, if_pos rfl]
  exact ti_n0
end RU
