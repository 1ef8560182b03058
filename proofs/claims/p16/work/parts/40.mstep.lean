section MS
variable {n : Nat} {N N' : Mem} {p1 p2 c2 : Int32} {B : Int} {w : Nat}
theorem ok_be {α β : Type} {x : Option α} {P : α → Prop} {f : α → Option β} {R : β → Prop} (h : Ok x P) (g : ∀ a, x = some a → P a → Ok (f a) R) : Ok (bi x f) R := by
  obtain ⟨a, e, h⟩ := h
  subst e
  exact g a rfl h
/-- how far a work still has to go -/
def fi (N : Mem) (w : Nat) : Int := if (N 3 w).toInt = 0 then 10 * ((N 1 w).toInt - (N 4 w).toInt) - (N 5 w).toInt else 0
def Fi (n : Nat) (N : Mem) : Int := sm (fi N) n
def MX (n : Nat) (N : Mem) : Prop := (∀ w, w < n → (N 3 w).toInt = 0 → (N 4 w).toInt < (N 1 w).toInt) ∧ (∀ w, n ≤ w → w < 12 → (N 4 w).toInt = 0) ∧ (∀ w, w < 12 → (cw (nI w) (cL N) : Int) ≤ if (N 3 w).toInt = 0 then 10 * (N 4 w).toInt else 0)
def MI (n : Nat) (B : Int) (N : Mem) : Prop := MT n N ∧ MX n N ∧ La N ≤ B
theorem mx_step (hX : MX n N) (hw : w < n) (hn : n ≤ 12) (e1 : ∀ j, N' 1 j = N 1 j) (e2 : ∀ j, j ≠ w → N' 3 j = N 3 j ∧ N' 4 j = N 4 j ∧ N' 5 j = N 5 j) (h1 : (N' 3 w).toInt = 0 → (N' 4 w).toInt < (N 1 w).toInt) (h2 : ∀ v, v < 12 → v ≠ w → cw (nI v) (cL N') ≤ cw (nI v) (cL N)) (h3 : (cw (nI w) (cL N') : Int) ≤ if (N' 3 w).toInt = 0 then 10 * (N' 4 w).toInt else 0) : MX n N' ∧ Fi n N' = Fi n N - fi N w + fi N' w := by
  refine ⟨⟨fun j hj hs => ?_, fun j hj hj2 => ?_, fun j hj => ?_⟩, ?_⟩
  · by_cases e : j = w
    · subst e
      rw [e1]; exact h1 hs
    · obtain ⟨a, b, c⟩ := e2 j e
      rw [a] at hs
      rw [b, e1]
      exact hX.1 j hj hs
  · rw [(e2 j (by omega)).2.1]
    exact hX.2.1 j hj hj2
  · by_cases e : j = w
    · subst e
      exact h3
    · obtain ⟨a, b, c⟩ := e2 j e
      rw [a, b]
      have := h2 j hj e
      have := hX.2.2 j hj
      omega
  · unfold Fi
    rw [sm_u (f := fi N) (g := fi N') (k := w) n hw (fun i hi hne => by
      obtain ⟨a, b, c⟩ := e2 i hne
      unfold fi
      rw [a, b, c, e1])]
theorem mx_c (hX : MX n N) (e1 : ∀ j, N' 1 j = N 1 j) (e3 : ∀ j, N' 3 j = N 3 j) (e4 : ∀ j, N' 4 j = N 4 j) (ec : cL N' = cL N) : MX n N' := by
  refine ⟨fun j hj hs => ?_, fun j hj hj2 => ?_, fun j hj => ?_⟩
  · rw [e4, e1]
    rw [e3] at hs
    exact hX.1 j hj hs
  · rw [e4]; exact hX.2.1 j hj hj2
  · rw [ec, e3, e4]; exact hX.2.2 j hj
theorem fi_c (e1 : ∀ j, N' 1 j = N 1 j) (e3 : ∀ j, N' 3 j = N 3 j) (e4 : ∀ j, N' 4 j = N 4 j) (e5 : ∀ j, N' 5 j = N 5 j) : Fi n N' = Fi n N := by
  unfold Fi
  exact sm_c n (fun i _ => by unfold fi; rw [e1, e3, e4, e5])
theorem cL_c (h0 : N' 0 23 = N 0 23) (h : ∀ k j, k = 20 ∨ k = 21 ∨ k = 22 → N' k j = N k j) : cL N' = cL N := by
  unfold cL
  rw [h0]
  exact cl_c (fun k _ => ⟨h _ _ (Or.inl rfl), h _ _ (Or.inr (Or.inl rfl)), h _ _ (Or.inr (Or.inr rfl))⟩)
theorem MI.room (h : MI n B N) : (N 0 23).toInt ≤ 1080 := by
  obtain ⟨hM, hX, -⟩ := h
  have hc := hM.ch
  have h1 := cw_all (l := cL N) (fun e he => by
    obtain ⟨k, hk, rfl⟩ := fr_mem he
    exact hM.cb)
  have h2 : sm (fun w => (cw (nI w) (cL N) : Int)) 12 ≤ 12 * 90 := sm_g (b := 90) 12 (fun i hi => by
    have a := hX.2.2 i hi
    by_cases hs : (N 3 i).toInt = 0
    · rw [if_pos hs] at a
      by_cases hn : i < n
      · have := hX.1 i hn hs
        have := (hM.st (j := i)).1
        show (cw (nI i) (cL N) : Int) ≤ 90
        omega
      · have := hX.2.1 i (by omega) hi
        show (cw (nI i) (cL N) : Int) ≤ 90
        omega
    · rw [if_neg hs] at a
      show (cw (nI i) (cL N) : Int) ≤ 90
      omega)
  rw [h1] at h2
  unfold cL at h2
  rw [cl_len] at h2
  omega
/-- undo, as far as it matters here -/
theorem UdP.f {wI to : Int32} (h : UdP wI to n N N') (hM : MT n N) : MT n N' ∧ La N' = La N ∧ (∀ j, N' 1 j = N 1 j) ∧ (∀ j, j ≠ wI.toNatClampNeg → N' 3 j = N 3 j) ∧ N' 3 wI.toNatClampNeg = to ∧ (∀ j, N' 4 j = N 4 j) ∧ (∀ j, N' 5 j = N 5 j) ∧ cL N' = (cL N).filter (fun e => decide (¬ e.1 = wI)) := by
  obtain ⟨N1, N2, hM1, a1, a2, ⟨hM2, r1, r2, r3, r4⟩, rfl⟩ := h
  have r : ∀ k j, k ≠ 16 → k ≠ 10 → k ≠ 20 → k ≠ 21 → k ≠ 22 → k ≠ 17 → (k ≠ 0 ∨ j ≠ 23) → N2 k j = N k j := fun k j a b c d e f g => by rw [r1 k j a b c d e g, a1 k j f]
  refine ⟨hM2.up (tm_f (by decide)), ?_, fun j => ?_, fun j hj => ?_, up2_s, fun j => ?_, fun j => ?_, ?_⟩
  · exact la_c (fun j => by rw [up2_k (by decide), r 19 j (by decide) (by decide) (by decide) (by decide) (by decide) (by decide) (Or.inl (by decide))]) (by rw [up2_k (by decide), r 0 22 (by decide) (by decide) (by decide) (by decide) (by decide) (by decide) (Or.inr (by decide))])
  · rw [up2_k (by decide), r 1 j (by decide) (by decide) (by decide) (by decide) (by decide) (by decide) (Or.inl (by decide))]
  · rw [up2_j hj, r 3 j (by decide) (by decide) (by decide) (by decide) (by decide) (by decide) (Or.inl (by decide))]
  · rw [up2_k (by decide), r 4 j (by decide) (by decide) (by decide) (by decide) (by decide) (by decide) (Or.inl (by decide))]
  · rw [up2_k (by decide), r 5 j (by decide) (by decide) (by decide) (by decide) (by decide) (by decide) (Or.inl (by decide))]
  · rw [cL_c (N := N2) (up2_k (by decide)) (fun k j hk => up2_k (by omega)), r4, cL_c (N := N) (N' := N1) (a1 _ _ (by decide)) (fun k j hk => a1 _ _ (by omega))]
theorem cw_le {v u : Int32} {l : List Ce} : cw v (l.filter (fun e => decide (¬ e.1 = u))) ≤ cw v l := by
  rw [cw_fl]
  split <;> omega
theorem cw_own {v u : Int32} {i : Nat} (h : v ≠ u) : cw v (own u N i) = 0 := by
  induction i with
  | zero => rfl
  | succ i ih =>
    rw [own_s, cw_app, ih]
    split
    · have : ¬ u = v := fun q => h q.symm
      simp [cw, this]
    · rfl
theorem cw_ow2 {u : Int32} {i : Nat} : cw u (own u N i) ≤ i := Nat.le_trans (by unfold cw; exact List.countP_le_length) own_l
/-- undo keeps what must be kept -/
theorem MI.undo (h : MI n B N) {wI to : Int32} (hw0 : 0 ≤ wI.toInt) (hw : wI.toInt < n) (hu : UdP wI to n N N') (ht : to.toInt ≠ 0) : MI n B N' ∧ Fi n N' = Fi n N - fi N wI.toNatClampNeg ∧ La N' = La N := by
  obtain ⟨hM, hX, hL⟩ := h
  obtain ⟨m, l, f1, f3, f3w, f4, f5, c⟩ := hu.f hM
  have h12 := hM.1
  have hww : wI = nI wI.toNatClampNeg := by rw [ti_eq, ti_nI (by rw [ti_cl]; omega), ti_cl]; omega
  have st := mx_step (N' := N') (w := wI.toNatClampNeg) hX (by rw [ti_cl]; omega) h12 f1 (fun j hj => ⟨f3 j hj, f4 j, f5 j⟩) (fun q => by rw [f3w] at q; exact absurd q ht) (fun v _ _ => by rw [c]; exact cw_le) (by
    rw [c, ← hww, cw_fl, if_pos rfl, f3w, if_neg ht]
    exact Int.le_refl 0)
  refine ⟨⟨m, st.1, by omega⟩, ?_, l⟩
  rw [st.2]
  have : fi N' wI.toNatClampNeg = 0 := by unfold fi; rw [f3w, if_neg ht]
  omega
theorem MI.fi6 (h : MI n B N) (hw : w < n) (hs : (N 3 w).toInt = 0) : 6 ≤ fi N w := by
  have := h.2.1.1 w hw hs
  have := h.1.gt (j := w)
  unfold fi
  rw [if_pos hs]
  omega
theorem MI.fi0 (h : MI n B N) (hw : w < n) : 0 ≤ fi N w := by
  by_cases hs : (N 3 w).toInt = 0
  · have := h.fi6 hw hs; omega
  · unfold fi; rw [if_neg hs]; omega
theorem MI.Fi0 (h : MI n B N) : 0 ≤ Fi n N := sm_p n (fun i hi => h.fi0 hi)
theorem MI.La0 (h : MI n B N) : 0 ≤ La N := by
  unfold La
  have := sm_p (f := fun k => (N 19 k).toInt) 144 (fun i _ => h.1.ls)
  have := h.1.lo
  omega
theorem MI.FiM (h : MI n B N) : Fi n N ≤ 1200 := by
  have := sm_g (f := fi N) (b := 100) n (fun i hi => by
    have := (h.1.st (j := i)).1
    have := h.1.sp (j := i)
    have := h.1.gt (j := i)
    unfold fi
    split <;> omega)
  have h12 := h.1.1
  unfold Fi
  omega
end MS
