theorem iX5_loses_X1 : ∀ w ∈ u_ws RX1 TX1 3, w ∈ wsX5_loses := by decide +kernel
theorem iX5_loses_X5 : ∀ w ∈ u_ws RX5 TX5 5, w ∈ wsX5_loses := by decide +kernel
set_option maxHeartbeats 4000000 in
set_option maxRecDepth 100000 in
/-- loses -/
theorem c_loses0 (l : Launch) (dC : Nat → ClassId) (dI : Nat → Nat → Nat) (cI : ClassId) (sz : Nat) (x wa sh po di : Nat) (a b : Nat) (q v : Int32) : Met l yX5_loses wsX5_loses ({ frames := 0, cells := 0, slots := 0, locals := 0 }) (uP dC dI cI [.ref x, .int v] [(x, .inr (5, [.ref wa, .int 0, .ref sh, .ref po, .ref di])), (po, .inr (1, [.ref a, .ref b, .int q]))] sz) (va_Qi (fun r _ => (r = 1 ∧ ¬ v < 0 ∧ ¬ 100 < v) ∨ (r = -2 ∧ (v < 0 ∨ 100 < v))) (fun (u : Unit) t => uB dC dI (va_A [(x, .inr (5, [.ref wa, .int 0, .ref sh, .ref po, .ref di])), (po, .inr (1, [.ref a, .ref b, .int q]))] sz) [] t) (va_A [(x, .inr (5, [.ref wa, .int 0, .ref sh, .ref po, .ref di])), (po, .inr (1, [.ref a, .ref b, .int q]))] sz)) 0 0 (va_A [(x, .inr (5, [.ref wa, .int 0, .ref sh, .ref po, .ref di])), (po, .inr (1, [.ref a, .ref b, .int q]))] sz) := by
  refine Met.ofW (cc := cX5_loses) (maxL := 2) (ret := (some .int)) (by decide) rfl ?_
  intro p e s m args below meth c s₁ B hml hv
  obtain ⟨rfl, hsz, hP, hKK, hD0⟩ := hv
  have hx := B.exec
  have hb := B.bytes
  have hr := B.returns
  have hts := atoms_spec (ws := wsX5_loses) B.pre
  have hown : s.vm.findClass RX5 = some m.cls := findClass_of_methodNamed B.named
  have hlocks := B.notSynchronized
  subst hsz
  have hD := hD0.self (sz := s.heap.size)
  generalize hAe : va_A [(x, .inr (5, [.ref wa, .int 0, .ref sh, .ref po, .ref di])), (po, .inr (1, [.ref a, .ref b, .int q]))] s.heap.size = A at hD ⊢
  have hA : ∀ q : Nat, s.heap.size ≤ q → A q := fun q h => by rw [← hAe]; exact Or.inr h
  have hS : va_S A s.heap s.heap [] := va_S.rf
  have hP : va_P (dC, dI) vwCl [(x, .inr (5, [.ref wa, .int 0, .ref sh, .ref po, .ref di])), (po, .inr (1, [.ref a, .ref b, .int q]))] s.heap := hP
  have hl := lv_entry ([.ref x, .int v]) (n := 2) (Nat.le_of_ble_eq_true rfl)
  rw [lg_entry_eq]
  generalize (lg_sl ([.ref x, .int v]) ++ List.replicate (2 - (lg_sl ([.ref x, .int v])).length) Slot.unset).toArray = ls at hl ⊢
  have hl : lv_has ls 2 [(0, .ref x), (1, .int v)] := hl
  refine lv_iload_n hx hb dX5_loses_0 rfl (lv_at hl 1 rfl) ?_
  refine lv_if_lt (tgt := 10) hx hb dX5_loses_1 (by decide) (fun c_1 => ?_) (fun c_1 => ?_)
  · refine lv_bipush (v := (-2)) hx hb dX5_loses_10 (by decide) ?_
    refine W.widen (k := 0) (n := 0) (by omega) (by omega) ?_
    have hP9 := hP.sub (ws' := []) [] rfl
    have hD9 := hD.sub (ws' := []) [] (by decide) rfl
    exact W.iret (v := (-2)) hx hb hr (fun t ht hW => ⟨⟨(-2), (), rfl, Or.inr ⟨rfl, Or.inl c_1⟩, by rw [ht]; exact hP9, hD9⟩, hS.F ht⟩) hS.2.2 dX5_loses_12
  · refine lv_iload_n hx hb dX5_loses_4 rfl (lv_at hl 1 rfl) ?_
    refine lv_bipush (v := 100) hx hb dX5_loses_5 (by decide) ?_
    refine lv_icmp_le (tgt := 13) hx hb dX5_loses_7 (by decide) (fun c_2 => ?_) (fun c_2 => ?_)
    · refine lv_aload_n hx hb dX5_loses_13 rfl (lv_at hl 0 rfl) ?_
      refine va_get (D := (dC, dI)) (ci := 5) (v := .ref po) (C := RX5) (T := TX5) (N := 5) hx hb hts iX5_loses_X5 hown hKK.1 hP 0 rfl rfl 3 (by decide) (hts (.fieldLink RX5 25 "LendThreads" "post" "LLendThreads$Post;") (by decide +kernel)) (fun _ h9 => h9) rfl dX5_loses_14 ?_
      refine lv_iload_n hx hb dX5_loses_17 rfl (lv_at hl 1 rfl) ?_
      refine va_putN (D := (dC, dI)) (ci := 1) (v := .int v) (ty := .int) (C := RX1) (T := TX1) (N := 3) hx hb hts iX5_loses_X1 tyX1 tyX1_ok nmX1 hown hKK.1 hP hD hS 1 rfl rfl 2 (by decide) (va_Nw.use rfl (hKK.2.2 (.fieldLinkNest RX5 84 RX1 "toLose" "I" RX5) (by decide +kernel))) (fun _ h9 => h9) rfl (by decide +kernel) rfl rfl (Nat.le_of_ble_eq_true rfl) dX5_loses_18 (fun H locs hP hD hS => ?_)
      have hP : va_P (dC, dI) vwCl [(x, .inr (5, [.ref wa, .int 0, .ref sh, .ref po, .ref di])), (po, .inr (1, [.ref a, .ref b, .int v]))] H := hP
      have hD : va_D A [(x, .inr (5, [.ref wa, .int 0, .ref sh, .ref po, .ref di])), (po, .inr (1, [.ref a, .ref b, .int v]))] := hD
      refine lv_iconst (v := 1) hx hb dX5_loses_21 (by decide) ?_
      refine W.widen (k := 0) (n := 0) (by omega) (by omega) ?_
      have hP9 := hP.sub (ws' := []) [] rfl
      have hD9 := hD.sub (ws' := []) [] (by decide) rfl
      exact W.iret (v := 1) hx hb hr (fun t ht hW => ⟨⟨1, (), rfl, Or.inl ⟨rfl, c_1, Int32.not_lt.mpr c_2⟩, by rw [ht]; exact hP9, hD9⟩, hS.F ht⟩) hS.2.2 dX5_loses_22
    · refine lv_bipush (v := (-2)) hx hb dX5_loses_10 (by decide) ?_
      refine W.widen (k := 0) (n := 0) (by omega) (by omega) ?_
      have hP9 := hP.sub (ws' := []) [] rfl
      have hD9 := hD.sub (ws' := []) [] (by decide) rfl
      exact W.iret (v := (-2)) hx hb hr (fun t ht hW => ⟨⟨(-2), (), rfl, Or.inr ⟨rfl, Or.inr (Int32.not_le.mp c_2)⟩, by rw [ht]; exact hP9, hD9⟩, hS.F ht⟩) hS.2.2 dX5_loses_12
/-- .. with an array of works -/
def uPw (dC : Nat → ClassId) (dI : Nat → Nat → Nat) (cI cW : ClassId) (av : List Value) (ws : va_W) (sz : Nat) : Array Value → State → Prop := fun a U => uP dC dI cI av ws sz a U ∧ va_K (dC, dI) vwCl [(cI, .int), (cW, .object RX4)] U
theorem uPw_preV {dC : Nat → ClassId} {dI : Nat → Nat → Nat} {cI cW : ClassId} {av : List Value} {ws : va_W} {s : State} {H : Heap} {A : Nat → Prop} {b : Addr} {C : String} (hK : kb dC dI cI s) (hKw : va_K (dC, dI) vwCl [(cI, .int), (cW, .object RX4)] s) (hP : va_P (dC, dI) vwCl ws H) (hD : va_D A ws) (hr : ∃ cellB : Cell, H[b]? = some cellB ∧ cellB.vm.isStatics = false ∧ s.vm.findClass C = some cellB.cls) : PreV s H C b (uPw dC dI cI cW (.ref b :: av) ws H.size) av :=
  ⟨fun a U g mk q => ⟨uP_blind a U g mk q.1, va_K.moved (u := U) (U := U.calling g mk a) (Vm.Alike.refl U.vm) q.2⟩, hr, fun U hU hW => ⟨⟨rfl, by rw [hU], by rw [hU]; exact hP, hK.warm hW, hD.weaken (fun _ _ _ _ => trivial)⟩, va_K.moved hW.alike hKw⟩⟩
theorem iX5_work_X4 : ∀ w ∈ u_ws RX4 TX4 12, w ∈ wsX5_work := by decide +kernel
theorem iX5_work_X5 : ∀ w ∈ u_ws RX5 TX5 5, w ∈ wsX5_work := by decide +kernel
set_option maxHeartbeats 4000000 in
set_option maxRecDepth 100000 in
/-- work, the first -/
theorem c_work0 (l : Launch) (dC : Nat → ClassId) (dI : Nat → Nat → Nat) (cI : ClassId) (sz : Nat) (x wa sh po di : Nat) (cW : ClassId) (f : Nat → Option Nat) (w0 : Nat) (hf : f 0 = some w0) (q1 q2 : Nat) (z3 z4 z5 z6 z7 z8 z9 z10 z11 : Int32) (a b : Int32) : Met l yX5_work wsX5_work ({ frames := 0, cells := 0, slots := 0, locals := 0 }) (uPw dC dI cI cW [.ref x, .int a, .int b] [(x, .inr (5, [.ref wa, .int 0, .ref sh, .ref po, .ref di])), (wa, .inl (cW, 12, .inr (.inr (.inr (.inr f))))), (w0, .inr (4, [.int 0, .ref q1, .ref q2, .int z3, .int z4, .int z5, .int z6, .int z7, .int z8, .int z9, .int z10, .int z11]))] sz) (va_Qi (fun r _ => (r = -2 ∧ (a < 1 ∨ 10 < a ∨ b < -1 ∨ a ≤ b)) ∨ (r = 0 ∧ ¬ a < 1 ∧ ¬ 10 < a ∧ ¬ b < -1 ∧ ¬ a ≤ b)) (fun (u : Unit) t => uB dC dI (va_A [(x, .inr (5, [.ref wa, .int 0, .ref sh, .ref po, .ref di])), (wa, .inl (cW, 12, .inr (.inr (.inr (.inr f))))), (w0, .inr (4, [.int 0, .ref q1, .ref q2, .int z3, .int z4, .int z5, .int z6, .int z7, .int z8, .int z9, .int z10, .int z11]))] sz) [] t) (va_A [(x, .inr (5, [.ref wa, .int 0, .ref sh, .ref po, .ref di])), (wa, .inl (cW, 12, .inr (.inr (.inr (.inr f))))), (w0, .inr (4, [.int 0, .ref q1, .ref q2, .int z3, .int z4, .int z5, .int z6, .int z7, .int z8, .int z9, .int z10, .int z11]))] sz)) 0 0 (va_A [(x, .inr (5, [.ref wa, .int 0, .ref sh, .ref po, .ref di])), (wa, .inl (cW, 12, .inr (.inr (.inr (.inr f))))), (w0, .inr (4, [.int 0, .ref q1, .ref q2, .int z3, .int z4, .int z5, .int z6, .int z7, .int z8, .int z9, .int z10, .int z11]))] sz) := by
  refine Met.ofW (cc := cX5_work) (maxL := 4) (ret := (some .int)) (by decide) rfl ?_
  intro p e s m args below meth c s₁ B hml hv
  obtain ⟨⟨rfl, hsz, hP, hKK, hD0⟩, hKw⟩ := hv
  have hx := B.exec
  have hb := B.bytes
  have hr := B.returns
  have hts := atoms_spec (ws := wsX5_work) B.pre
  have hown : s.vm.findClass RX5 = some m.cls := findClass_of_methodNamed B.named
  have hlocks := B.notSynchronized
  subst hsz
  have hD := hD0.self (sz := s.heap.size)
  generalize hAe : va_A [(x, .inr (5, [.ref wa, .int 0, .ref sh, .ref po, .ref di])), (wa, .inl (cW, 12, .inr (.inr (.inr (.inr f))))), (w0, .inr (4, [.int 0, .ref q1, .ref q2, .int z3, .int z4, .int z5, .int z6, .int z7, .int z8, .int z9, .int z10, .int z11]))] s.heap.size = A at hD ⊢
  have hA : ∀ q : Nat, s.heap.size ≤ q → A q := fun q h => by rw [← hAe]; exact Or.inr h
  have hS : va_S A s.heap s.heap [] := va_S.rf
  have hP : va_P (dC, dI) vwCl [(x, .inr (5, [.ref wa, .int 0, .ref sh, .ref po, .ref di])), (wa, .inl (cW, 12, .inr (.inr (.inr (.inr f))))), (w0, .inr (4, [.int 0, .ref q1, .ref q2, .int z3, .int z4, .int z5, .int z6, .int z7, .int z8, .int z9, .int z10, .int z11]))] s.heap := hP
  have hl := lv_entry ([.ref x, .int a, .int b]) (n := 4) (Nat.le_of_ble_eq_true rfl)
  rw [lg_entry_eq]
  generalize (lg_sl ([.ref x, .int a, .int b]) ++ List.replicate (4 - (lg_sl ([.ref x, .int a, .int b])).length) Slot.unset).toArray = ls at hl ⊢
  have hl : lv_has ls 4 [(0, .ref x), (1, .int a), (2, .int b)] := hl
  refine lv_iload_n hx hb dX5_work_0 rfl (lv_at hl 1 rfl) ?_
  refine lv_iconst (v := 1) hx hb dX5_work_1 (by decide) ?_
  refine lv_icmp_lt (tgt := 21) hx hb dX5_work_2 (by decide) (fun c_1 => ?_) (fun c_1 => ?_)
  · refine lv_bipush (v := (-2)) hx hb dX5_work_21 (by decide) ?_
    refine W.widen (k := 0) (n := 0) (by omega) (by omega) ?_
    have hP9 := hP.sub (ws' := []) [] rfl
    have hD9 := hD.sub (ws' := []) [] (by decide) rfl
    exact W.iret (v := (-2)) hx hb hr (fun t ht hW => ⟨⟨(-2), (), rfl, Or.inl ⟨rfl, Or.inl c_1⟩, by rw [ht]; exact hP9, hD9⟩, hS.F ht⟩) hS.2.2 dX5_work_23
  · refine lv_iload_n hx hb dX5_work_5 rfl (lv_at hl 1 rfl) ?_
    refine lv_bipush (v := 10) hx hb dX5_work_6 (by decide) ?_
    refine lv_icmp_gt (tgt := 21) hx hb dX5_work_8 (by decide) (fun c_2 => ?_) (fun c_2 => ?_)
    · refine lv_bipush (v := (-2)) hx hb dX5_work_21 (by decide) ?_
      refine W.widen (k := 0) (n := 0) (by omega) (by omega) ?_
      have hP9 := hP.sub (ws' := []) [] rfl
      have hD9 := hD.sub (ws' := []) [] (by decide) rfl
      exact W.iret (v := (-2)) hx hb hr (fun t ht hW => ⟨⟨(-2), (), rfl, Or.inl ⟨rfl, Or.inr (Or.inl c_2)⟩, by rw [ht]; exact hP9, hD9⟩, hS.F ht⟩) hS.2.2 dX5_work_23
    · refine lv_iload_n hx hb dX5_work_11 rfl (lv_at hl 2 rfl) ?_
      refine lv_iconst (v := (-1)) hx hb dX5_work_12 (by decide) ?_
      refine lv_icmp_lt (tgt := 21) hx hb dX5_work_13 (by decide) (fun c_3 => ?_) (fun c_3 => ?_)
      · refine lv_bipush (v := (-2)) hx hb dX5_work_21 (by decide) ?_
        refine W.widen (k := 0) (n := 0) (by omega) (by omega) ?_
        have hP9 := hP.sub (ws' := []) [] rfl
        have hD9 := hD.sub (ws' := []) [] (by decide) rfl
        exact W.iret (v := (-2)) hx hb hr (fun t ht hW => ⟨⟨(-2), (), rfl, Or.inl ⟨rfl, Or.inr (Or.inr (Or.inl c_3))⟩, by rw [ht]; exact hP9, hD9⟩, hS.F ht⟩) hS.2.2 dX5_work_23
      · refine lv_iload_n hx hb dX5_work_16 rfl (lv_at hl 2 rfl) ?_
        refine lv_iload_n hx hb dX5_work_17 rfl (lv_at hl 1 rfl) ?_
        refine lv_icmp_lt (tgt := 24) hx hb dX5_work_18 (by decide) (fun c_4 => ?_) (fun c_4 => ?_)
        · refine lv_aload_n hx hb dX5_work_24 rfl (lv_at hl 0 rfl) ?_
          refine va_get (D := (dC, dI)) (ci := 5) (v := .int 0) (C := RX5) (T := TX5) (N := 5) hx hb hts iX5_work_X5 hown hKw hP 0 rfl rfl 1 (by decide) (hts (.fieldLink RX5 39 "LendThreads" "workCount" "I") (by decide +kernel)) (fun _ h9 => h9) rfl dX5_work_25 ?_
          refine lv_bipush (v := 12) hx hb dX5_work_28 (by decide) ?_
          refine lv_icmp_lt (tgt := 36) hx hb dX5_work_30 (by decide) (fun c_5 => ?_) (fun c_5 => ?_)
          · refine lv_aload_n hx hb dX5_work_36 rfl (lv_at hl 0 rfl) ?_
            refine va_get (D := (dC, dI)) (ci := 5) (v := .ref wa) (C := RX5) (T := TX5) (N := 5) hx hb hts iX5_work_X5 hown hKw hP 0 rfl rfl 0 (by decide) (hts (.fieldLink RX5 11 "LendThreads" "works" "[LLendThreads$Work;") (by decide +kernel)) (fun _ h9 => h9) rfl dX5_work_37 ?_
            refine lv_aload_n hx hb dX5_work_40 rfl (lv_at hl 0 rfl) ?_
            refine va_get (D := (dC, dI)) (ci := 5) (v := .int 0) (C := RX5) (T := TX5) (N := 5) hx hb hts iX5_work_X5 hown hKw hP 0 rfl rfl 1 (by decide) (hts (.fieldLink RX5 39 "LendThreads" "workCount" "I") (by decide +kernel)) (fun _ h9 => h9) rfl dX5_work_41 ?_
            refine va_aldq hx hb hKw hP 1 1 rfl rfl (vp_in_iff.mpr (by decide)) dX5_work_44 ?_
            refine W.eq (g2 := F0 m 45 ls [.ref w0]) (by rw [show (0 : Int32).toNatClampNeg = 0 from by decide, hf]; rfl) ?_
            refine lv_astore_n (lv' := [(3, .ref w0), (0, .ref x), (1, .int a), (2, .int b)]) hx hb dX5_work_45 rfl hl (by decide) rfl (fun ls hl => ?_)
            refine lv_aload_n hx hb dX5_work_46 rfl (lv_at hl 0 rfl) ?_
            refine lv_iload_n hx hb dX5_work_47 rfl (lv_at hl 2 rfl) ?_
            refine va_putN (D := (dC, dI)) (ci := 4) (v := .int a) (ty := .int) (C := RX4) (T := TX4) (N := 12) hx hb hts iX5_work_X4 tyX4 tyX4_ok nmX4 hown hKw hP hD hS 2 rfl rfl 3 (by decide) (va_Nw.use rfl (hKK.2.2 (.fieldLinkNest RX5 43 RX4 "steps" "I" RX5) (by decide +kernel))) (fun _ h9 => h9) rfl (by decide +kernel) rfl rfl (Nat.le_of_ble_eq_true rfl) dX5_work_48 (fun H locs hP hD hS => ?_)
            have hP : va_P (dC, dI) vwCl [(x, .inr (5, [.ref wa, .int 0, .ref sh, .ref po, .ref di])), (wa, .inl (cW, 12, .inr (.inr (.inr (.inr f))))), (w0, .inr (4, [.int 0, .ref q1, .ref q2, .int a, .int z4, .int z5, .int z6, .int z7, .int z8, .int z9, .int z10, .int z11]))] H := hP
            have hD : va_D A [(x, .inr (5, [.ref wa, .int 0, .ref sh, .ref po, .ref di])), (wa, .inl (cW, 12, .inr (.inr (.inr (.inr f))))), (w0, .inr (4, [.int 0, .ref q1, .ref q2, .int a, .int z4, .int z5, .int z6, .int z7, .int z8, .int z9, .int z10, .int z11]))] := hD
            refine lv_aload_n hx hb dX5_work_51 rfl (lv_at hl 0 rfl) ?_
            refine lv_iload_n hx hb dX5_work_52 rfl (lv_at hl 3 rfl) ?_
            refine va_putN (D := (dC, dI)) (ci := 4) (v := .int b) (ty := .int) (C := RX4) (T := TX4) (N := 12) hx hb hts iX5_work_X4 tyX4 tyX4_ok nmX4 hown hKw hP hD hS 2 rfl rfl 4 (by decide) (va_Nw.use rfl (hKK.2.2 (.fieldLinkNest RX5 46 RX4 "failsAt" "I" RX5) (by decide +kernel))) (fun _ h9 => h9) rfl (by decide +kernel) rfl rfl (Nat.le_of_ble_eq_true rfl) dX5_work_53 (fun H locs hP hD hS => ?_)
            have hP : va_P (dC, dI) vwCl [(x, .inr (5, [.ref wa, .int 0, .ref sh, .ref po, .ref di])), (wa, .inl (cW, 12, .inr (.inr (.inr (.inr f))))), (w0, .inr (4, [.int 0, .ref q1, .ref q2, .int a, .int b, .int z5, .int z6, .int z7, .int z8, .int z9, .int z10, .int z11]))] H := hP
            have hD : va_D A [(x, .inr (5, [.ref wa, .int 0, .ref sh, .ref po, .ref di])), (wa, .inl (cW, 12, .inr (.inr (.inr (.inr f))))), (w0, .inr (4, [.int 0, .ref q1, .ref q2, .int a, .int b, .int z5, .int z6, .int z7, .int z8, .int z9, .int z10, .int z11]))] := hD
            refine lv_aload_n hx hb dX5_work_56 rfl (lv_at hl 1 rfl) ?_
            refine lv_dup hx hb dX5_work_57 rfl ?_
            refine va_get (D := (dC, dI)) (ci := 5) (v := .int 0) (C := RX5) (T := TX5) (N := 5) hx hb hts iX5_work_X5 hown hKw hP 0 rfl rfl 1 (by decide) (hts (.fieldLink RX5 39 "LendThreads" "workCount" "I") (by decide +kernel)) (fun _ h9 => h9) rfl dX5_work_58 ?_
            refine lv_iconst (v := 1) hx hb dX5_work_61 (by decide) ?_
            refine lv_iadd hx hb dX5_work_62 ?_
            refine lv_topi (fun x_6 ex_6 => ?_)
            obtain rfl : x_6 = 1 := by rw [ex_6]; decide
            refine va_put (D := (dC, dI)) (ci := 5) (v := .int 1) (ty := .int) (C := RX5) (T := TX5) (N := 5) hx hb hts iX5_work_X5 tyX5 tyX5_ok nmX5 hown hKw hP hD hS 0 rfl rfl 1 (by decide) (hts (.fieldLink RX5 39 "LendThreads" "workCount" "I") (by decide +kernel)) (fun _ h9 => h9) rfl (by decide +kernel) rfl rfl (Nat.le_of_ble_eq_true rfl) dX5_work_63 (fun H locs hP hD hS => ?_)
            have hP : va_P (dC, dI) vwCl [(x, .inr (5, [.ref wa, .int 1, .ref sh, .ref po, .ref di])), (wa, .inl (cW, 12, .inr (.inr (.inr (.inr f))))), (w0, .inr (4, [.int 0, .ref q1, .ref q2, .int a, .int b, .int z5, .int z6, .int z7, .int z8, .int z9, .int z10, .int z11]))] H := hP
            have hD : va_D A [(x, .inr (5, [.ref wa, .int 1, .ref sh, .ref po, .ref di])), (wa, .inl (cW, 12, .inr (.inr (.inr (.inr f))))), (w0, .inr (4, [.int 0, .ref q1, .ref q2, .int a, .int b, .int z5, .int z6, .int z7, .int z8, .int z9, .int z10, .int z11]))] := hD
            refine lv_aload_n hx hb dX5_work_66 rfl (lv_at hl 0 rfl) ?_
            refine va_getN (D := (dC, dI)) (ci := 4) (v := .int 0) (C := RX4) (T := TX4) (N := 12) hx hb hts iX5_work_X4 hown hKw hP 2 rfl rfl 0 (by decide) (va_Nw.use rfl (hKK.2.2 (.fieldLinkNest RX5 49 RX4 "number" "I" RX5) (by decide +kernel))) (fun _ h9 => h9) rfl dX5_work_67 ?_
            refine W.widen (k := 0) (n := 0) (by omega) (by omega) ?_
            have hP9 := hP.sub (ws' := []) [] rfl
            have hD9 := hD.sub (ws' := []) [] (by decide) rfl
            exact W.iret (v := 0) hx hb hr (fun t ht hW => ⟨⟨0, (), rfl, Or.inr ⟨rfl, c_1, c_2, c_3, Int32.not_le.mpr c_4⟩, by rw [ht]; exact hP9, hD9⟩, hS.F ht⟩) hS.2.2 dX5_work_70
          · exact absurd c_5 (by decide)
        · refine lv_bipush (v := (-2)) hx hb dX5_work_21 (by decide) ?_
          refine W.widen (k := 0) (n := 0) (by omega) (by omega) ?_
          have hP9 := hP.sub (ws' := []) [] rfl
          have hD9 := hD.sub (ws' := []) [] (by decide) rfl
          exact W.iret (v := (-2)) hx hb hr (fun t ht hW => ⟨⟨(-2), (), rfl, Or.inl ⟨rfl, Or.inr (Or.inr (Or.inr (Int32.not_lt.mp c_4)))⟩, by rw [ht]; exact hP9, hD9⟩, hS.F ht⟩) hS.2.2 dX5_work_23
