theorem iX2_init_X2 : ∀ w ∈ u_ws RX2 TX2 3, w ∈ wsX2_init := by decide +kernel
set_option maxHeartbeats 4000000 in
set_option maxRecDepth 100000 in
/-- Rows() -/
theorem c_Rows_init (l : Launch) (dC : Nat → ClassId) (dI : Nat → Nat → Nat) (cI : ClassId) (sz : Nat) (h0 : Nat) (v w : Int32) (a ab : Nat) (ha : ¬ v < 0) (ea : v.toNatClampNeg = a) (hab : ¬ v * w < 0) (eab : (v * w).toNatClampNeg = ab) (la : a ≤ 1000) (lb : ab ≤ 1000) : Met l yX2_init wsX2_init ({ frames := 1, cells := 2, slots := a + ab, locals := 12 }) (uP dC dI cI [.ref h0, .int v, .int w] [(h0, .inr (2, [.int 0, .null, .null]))] sz) (va_Qv (fun _ => True) (fun (u : Nat × Nat) t => uB dC dI (va_A [(h0, .inr (2, [.int 0, .null, .null]))] sz) [(h0, .inr (2, [.int w, .ref u.1, .ref u.2])), (u.1, .inl (cI, a, .inl (fun _ => 0))), (u.2, .inl (cI, ab, .inl (fun _ => 0)))] t) (va_A [(h0, .inr (2, [.int 0, .null, .null]))] sz)) 2 (a + ab) (va_A [(h0, .inr (2, [.int 0, .null, .null]))] sz) := by
  refine Met.ofW (cc := cX2_init) (maxL := 3) (ret := none) (by decide) rfl ?_
  intro p e s m args below meth c s₁ B hml hv
  obtain ⟨rfl, hsz, hP, hKK, hD0⟩ := hv
  have hx := B.exec
  have hb := B.bytes
  have hr := B.returns
  have hts := atoms_spec (ws := wsX2_init) B.pre
  have hown : s.vm.findClass RX2 = some m.cls := findClass_of_methodNamed B.named
  have hlocks := B.notSynchronized
  have hin : meth.name = "<init>" := (name_of_methodNamed B.named B.method).1
  subst hsz
  have hD := hD0.self (sz := s.heap.size)
  generalize hAe : va_A [(h0, .inr (2, [.int 0, .null, .null]))] s.heap.size = A at hD ⊢
  have hA : ∀ q : Nat, s.heap.size ≤ q → A q := fun q h => by rw [← hAe]; exact Or.inr h
  have hS : va_S A s.heap s.heap [] := va_S.rf
  have hP : va_P (dC, dI) vwCl [(h0, .inr (2, [.int 0, .null, .null]))] s.heap := hP
  have hl := lv_entry ([.ref h0, .int v, .int w]) (n := 3) (Nat.le_of_ble_eq_true rfl)
  rw [lg_entry_eq]
  generalize (lg_sl ([.ref h0, .int v, .int w]) ++ List.replicate (3 - (lg_sl ([.ref h0, .int v, .int w])).length) Slot.unset).toArray = ls at hl ⊢
  have hl : lv_has ls 3 [(0, .ref h0), (1, .int v), (2, .int w)] := hl
  refine lv_aload_n hx hb dX2_init_0 rfl (lv_at hl 0 rfl) ?_
  refine W.objInit hx hb hown (hts (.methodLink RX2 3 objectInit) (by decide +kernel)) (hts (.instanceMethod objectInit) (by decide +kernel)) (hts (.code objectInit ⟨#[0xb1]⟩ 1 none) (by decide +kernel)) rfl (by rw [hml]; exact hl.1) rfl dX2_init_1 (Nat.le_of_ble_eq_true rfl) (Nat.le_of_ble_eq_true rfl) ?_
  refine W.eq (g2 := F0 m 4 ls []) rfl ?_
  refine lv_aload_n hx hb dX2_init_4 rfl (lv_at hl 0 rfl) ?_
  refine lv_iload_n hx hb dX2_init_5 rfl (lv_at hl 2 rfl) ?_
  refine va_putF (D := (dC, dI)) (ci := 2) (v := .int w) (ty := .int) (C := RX2) (T := TX2) (N := 3) hx hb hts iX2_init_X2 tyX2 tyX2_ok nmX2 hown hKK.1 hP hD hS 0 rfl rfl 0 (by decide) (hts (.fieldLink RX2 9 "LendThreads$Rows" "room" "I") (by decide +kernel)) (fun _ h9 => h9) rfl hin rfl (by decide +kernel) rfl rfl (Nat.le_of_ble_eq_true rfl) dX2_init_6 (fun H locs hP hD hS => ?_)
  have hP : va_P (dC, dI) vwCl [(h0, .inr (2, [.int w, .null, .null]))] H := hP
  have hD : va_D A [(h0, .inr (2, [.int w, .null, .null]))] := hD
  refine lv_aload_n hx hb dX2_init_9 rfl (lv_at hl 0 rfl) ?_
  refine lv_iload_n hx hb dX2_init_10 rfl (lv_at hl 1 rfl) ?_
  refine bn_newI hx hb (hts (.arrayClass .int) (by decide +kernel)) hKK hP hD hS hA ha ea (by omega) (show 0 + 1 ≤ 2 by omega) (show 0 + a ≤ a + ab by omega) dX2_init_11 (fun q_1 H hP hD hS => ?_)
  have hP : va_P (dC, dI) vwCl [(h0, .inr (2, [.int w, .null, .null])), (q_1, .inl (cI, a, .inl (fun _ => 0)))] H := hP
  have hD : va_D A [(h0, .inr (2, [.int w, .null, .null])), (q_1, .inl (cI, a, .inl (fun _ => 0)))] := hD
  refine va_putF (D := (dC, dI)) (ci := 2) (v := .ref q_1) (ty := .array .int) (C := RX2) (T := TX2) (N := 3) hx hb hts iX2_init_X2 tyX2 tyX2_ok nmX2 hown hKK.1 hP hD hS 0 rfl rfl 1 (by decide) (hts (.fieldLink RX2 15 "LendThreads$Rows" "counts" "[I") (by decide +kernel)) (fun _ h9 => h9) rfl hin rfl (by decide +kernel) rfl rfl (Nat.le_of_ble_eq_true rfl) dX2_init_13 (fun H locs hP hD hS => ?_)
  have hP : va_P (dC, dI) vwCl [(h0, .inr (2, [.int w, .ref q_1, .null])), (q_1, .inl (cI, a, .inl (fun _ => 0)))] H := hP
  have hD : va_D A [(h0, .inr (2, [.int w, .ref q_1, .null])), (q_1, .inl (cI, a, .inl (fun _ => 0)))] := hD
  refine lv_aload_n hx hb dX2_init_16 rfl (lv_at hl 0 rfl) ?_
  refine lv_iload_n hx hb dX2_init_17 rfl (lv_at hl 1 rfl) ?_
  refine lv_iload_n hx hb dX2_init_18 rfl (lv_at hl 2 rfl) ?_
  refine lv_imul hx hb dX2_init_19 ?_
  refine lv_topi (fun x_2 ex_2 => ?_)
  refine bn_newI hx hb (hts (.arrayClass .int) (by decide +kernel)) hKK hP hD hS hA (by rw [ex_2]; exact hab) (by rw [ex_2]; exact eab) (by omega) (show 0 + 1 + 1 ≤ 2 by omega) (show 0 + a + ab ≤ a + ab by omega) dX2_init_20 (fun q_3 H hP hD hS => ?_)
  have hP : va_P (dC, dI) vwCl [(h0, .inr (2, [.int w, .ref q_1, .null])), (q_1, .inl (cI, a, .inl (fun _ => 0))), (q_3, .inl (cI, ab, .inl (fun _ => 0)))] H := hP
  have hD : va_D A [(h0, .inr (2, [.int w, .ref q_1, .null])), (q_1, .inl (cI, a, .inl (fun _ => 0))), (q_3, .inl (cI, ab, .inl (fun _ => 0)))] := hD
  refine va_putF (D := (dC, dI)) (ci := 2) (v := .ref q_3) (ty := .array .int) (C := RX2) (T := TX2) (N := 3) hx hb hts iX2_init_X2 tyX2 tyX2_ok nmX2 hown hKK.1 hP hD hS 0 rfl rfl 2 (by decide) (hts (.fieldLink RX2 19 "LendThreads$Rows" "items" "[I") (by decide +kernel)) (fun _ h9 => h9) rfl hin rfl (by decide +kernel) rfl rfl (Nat.le_of_ble_eq_true rfl) dX2_init_22 (fun H locs hP hD hS => ?_)
  have hP : va_P (dC, dI) vwCl [(h0, .inr (2, [.int w, .ref q_1, .ref q_3])), (q_1, .inl (cI, a, .inl (fun _ => 0))), (q_3, .inl (cI, ab, .inl (fun _ => 0)))] H := hP
  have hD : va_D A [(h0, .inr (2, [.int w, .ref q_1, .ref q_3])), (q_1, .inl (cI, a, .inl (fun _ => 0))), (q_3, .inl (cI, ab, .inl (fun _ => 0)))] := hD
  refine W.widen (k := 2) (n := a + ab) (by omega) (by omega) ?_
  have hP9 := hP.sub (ws' := [(h0, .inr (2, [.int w, .ref q_1, .ref q_3])), (q_1, .inl (cI, a, .inl (fun _ => 0))), (q_3, .inl (cI, ab, .inl (fun _ => 0)))]) [0, 1, 2] rfl
  have hD9 := hD.sub (ws' := [(h0, .inr (2, [.int w, .ref q_1, .ref q_3])), (q_1, .inl (cI, a, .inl (fun _ => 0))), (q_3, .inl (cI, ab, .inl (fun _ => 0)))]) [0, 1, 2] (by decide) rfl
  exact W.vret hx hb hr (fun t ht hW => ⟨⟨(q_1, q_3), rfl, trivial, by rw [ht]; exact hP9, hD9⟩, hS.F ht⟩) hS.2.2 dX2_init_25
theorem iX4_init_X2 : ∀ w ∈ u_ws RX2 TX2 3, w ∈ wsX4_init := by decide +kernel
theorem iX4_init_X4 : ∀ w ∈ u_ws RX4 TX4 12, w ∈ wsX4_init := by decide +kernel
set_option maxHeartbeats 4000000 in
set_option maxRecDepth 100000 in
/-- Work(k) -/
theorem c_Work_init (l : Launch) (dC : Nat → ClassId) (dI : Nat → Nat → Nat) (cI : ClassId) (sz : Nat) (h0 : Nat) (k : Int32) : Met l yX4_init wsX4_init ({ frames := 2, cells := 6, slots := 86, locals := 34 }) (uP dC dI cI [.ref h0, .int k] [(h0, .inr (4, [.int 0, .null, .null, .int 0, .int 0, .int 0, .int 0, .int 0, .int 0, .int 0, .int 0, .int 0]))] sz) (va_Qv (fun _ => True) (fun (u : Nat × Nat × Nat × Nat × Nat × Nat) t => uB dC dI (va_A [(h0, .inr (4, [.int 0, .null, .null, .int 0, .int 0, .int 0, .int 0, .int 0, .int 0, .int 0, .int 0, .int 0]))] sz) [(h0, .inr (4, [.int k, .ref u.1, .ref u.2.2.2.1, .int 0, .int (-1), .int 0, .int 0, .int 0, .int 0, .int 0, .int 0, .int 0])), (u.1, .inr (2, [.int 4, .ref u.2.1, .ref u.2.2.1])), (u.2.1, .inl (cI, 10, .inl (fun _ => 0))), (u.2.2.1, .inl (cI, 40, .inl (fun _ => 0))), (u.2.2.2.1, .inr (2, [.int 2, .ref u.2.2.2.2.1, .ref u.2.2.2.2.2])), (u.2.2.2.2.1, .inl (cI, 10, .inl (fun _ => 0))), (u.2.2.2.2.2, .inl (cI, 20, .inl (fun _ => 0)))] t) (va_A [(h0, .inr (4, [.int 0, .null, .null, .int 0, .int 0, .int 0, .int 0, .int 0, .int 0, .int 0, .int 0, .int 0]))] sz)) 6 86 (va_A [(h0, .inr (4, [.int 0, .null, .null, .int 0, .int 0, .int 0, .int 0, .int 0, .int 0, .int 0, .int 0, .int 0]))] sz) := by
  refine Met.ofW (cc := cX4_init) (maxL := 2) (ret := none) (by decide) rfl ?_
  intro p e s m args below meth c s₁ B hml hv
  obtain ⟨rfl, hsz, hP, hKK, hD0⟩ := hv
  have hx := B.exec
  have hb := B.bytes
  have hr := B.returns
  have hts := atoms_spec (ws := wsX4_init) B.pre
  have hown : s.vm.findClass RX4 = some m.cls := findClass_of_methodNamed B.named
  have hlocks := B.notSynchronized
  have hin : meth.name = "<init>" := (name_of_methodNamed B.named B.method).1
  subst hsz
  have hD := hD0.self (sz := s.heap.size)
  generalize hAe : va_A [(h0, .inr (4, [.int 0, .null, .null, .int 0, .int 0, .int 0, .int 0, .int 0, .int 0, .int 0, .int 0, .int 0]))] s.heap.size = A at hD ⊢
  have hA : ∀ q : Nat, s.heap.size ≤ q → A q := fun q h => by rw [← hAe]; exact Or.inr h
  have hS : va_S A s.heap s.heap [] := va_S.rf
  have hP : va_P (dC, dI) vwCl [(h0, .inr (4, [.int 0, .null, .null, .int 0, .int 0, .int 0, .int 0, .int 0, .int 0, .int 0, .int 0, .int 0]))] s.heap := hP
  have hl := lv_entry ([.ref h0, .int k]) (n := 2) (Nat.le_of_ble_eq_true rfl)
  rw [lg_entry_eq]
  generalize (lg_sl ([.ref h0, .int k]) ++ List.replicate (2 - (lg_sl ([.ref h0, .int k])).length) Slot.unset).toArray = ls at hl ⊢
  have hl : lv_has ls 2 [(0, .ref h0), (1, .int k)] := hl
  refine lv_aload_n hx hb dX4_init_0 rfl (lv_at hl 0 rfl) ?_
  refine W.objInit hx hb hown (hts (.methodLink RX4 3 objectInit) (by decide +kernel)) (hts (.instanceMethod objectInit) (by decide +kernel)) (hts (.code objectInit ⟨#[0xb1]⟩ 1 none) (by decide +kernel)) rfl (by rw [hml]; exact hl.1) rfl dX4_init_1 (Nat.le_of_ble_eq_true rfl) (Nat.le_of_ble_eq_true rfl) ?_
  refine W.eq (g2 := F0 m 4 ls []) rfl ?_
  refine lv_aload_n hx hb dX4_init_4 rfl (lv_at hl 0 rfl) ?_
  refine va_new (ci := 2) (fs := [.int 0, .null, .null]) (C := RX2) (T := TX2) (N := 3) hx hb hts iX4_init_X2 tyX2 tyX2_ok hown (hts (.classLink RX4 9 RX2) (by decide +kernel)) (hts (.instantiable RX2 3) (by decide +kernel)) (hts (.initialized RX2) (by decide +kernel)) hKK.1 hP hD hS hA rfl (fun j hj => by rcases (show j = 0 ∨ j = 1 ∨ j = 2 by omega) with rfl | rfl | rfl <;> rfl) (show 0 + 1 ≤ 6 by omega) (show 0 + 3 ≤ 86 by omega) dX4_init_5 (fun q_1 H hP hD hS => ?_)
  have hP : va_P (dC, dI) vwCl [(h0, .inr (4, [.int 0, .null, .null, .int 0, .int 0, .int 0, .int 0, .int 0, .int 0, .int 0, .int 0, .int 0])), (q_1, .inr (2, [.int 0, .null, .null]))] H := hP
  have hD : va_D A [(h0, .inr (4, [.int 0, .null, .null, .int 0, .int 0, .int 0, .int 0, .int 0, .int 0, .int 0, .int 0, .int 0])), (q_1, .inr (2, [.int 0, .null, .null]))] := hD
  refine lv_dup hx hb dX4_init_8 rfl ?_
  refine lv_bipush (v := 10) hx hb dX4_init_9 (by decide) ?_
  refine lv_iconst (v := 4) hx hb dX4_init_11 (by decide) ?_
  have hPc := hP.sub (ws' := [(q_1, .inr (2, [.int 0, .null, .null]))]) [1] rfl
  have hDc := hD.sub (ws' := [(q_1, .inr (2, [.int 0, .null, .null]))]) [1] (by decide) rfl
  have hFc := va_free (wc := [(q_1, .inr (2, [.int 0, .null, .null]))]) hD hS hA [1] rfl
  refine va_callv (va_runI (As := [.int 10, .int 4]) (rest := [.ref q_1, .ref h0]) ⟨hx, hb, hml, hown, hts⟩ (c_Rows_init l dC dI cI H.size q_1 10 4 10 40 (by decide) (by decide) (by decide) (by decide) (by decide) (by decide)) (cwI 2 hts gX4_init_X2_init rfl rfl rfl (hts (.initialized RX2) (by decide +kernel)) (hts (.methodLink RX4 11 yX2_init) (by decide +kernel)) (hts (.instanceMethod yX2_init) (by decide +kernel)) rfl (by decide +kernel) ⟨Nat.le_of_ble_eq_true rfl, Nat.le_of_ble_eq_true rfl⟩) (uP_preS hKK hPc hDc) rfl rfl hl.1 rfl (lv_room (Nat.le_of_ble_eq_true rfl)) dX4_init_12 ⟨(show 0 + 1 + 2 ≤ 6 by omega), (show 0 + 3 + 50 ≤ 86 by omega)⟩) hS (fun q _ h => hFc q h) hFc (fun u t H1 locs ht hvm hw hB hz1 hk1 hS => ?_)
  obtain ⟨q_2, q_3⟩ := u
  obtain ⟨hP1, hD1⟩ := hB
  rw [ht] at hP1
  obtain ⟨hP, hD⟩ := va_join (wr := [(h0, .inr (4, [.int 0, .null, .null, .int 0, .int 0, .int 0, .int 0, .int 0, .int 0, .int 0, .int 0, .int 0]))]) (w1 := [(q_1, .inr (2, [.int 4, .ref q_2, .ref q_3])), (q_2, .inl (cI, 10, .inl (fun _ => 0))), (q_3, .inl (cI, 40, .inl (fun _ => 0)))]) hP hD [1] [0] rfl rfl (by decide) (by decide) hk1 hFc hP1 hD1
  generalize H1 = H at hP hS ⊢
  have hP : va_P (dC, dI) vwCl [(h0, .inr (4, [.int 0, .null, .null, .int 0, .int 0, .int 0, .int 0, .int 0, .int 0, .int 0, .int 0, .int 0])), (q_1, .inr (2, [.int 4, .ref q_2, .ref q_3])), (q_2, .inl (cI, 10, .inl (fun _ => 0))), (q_3, .inl (cI, 40, .inl (fun _ => 0)))] H := hP
  have hD : va_D A [(h0, .inr (4, [.int 0, .null, .null, .int 0, .int 0, .int 0, .int 0, .int 0, .int 0, .int 0, .int 0, .int 0])), (q_1, .inr (2, [.int 4, .ref q_2, .ref q_3])), (q_2, .inl (cI, 10, .inl (fun _ => 0))), (q_3, .inl (cI, 40, .inl (fun _ => 0)))] := hD
  refine va_putF (D := (dC, dI)) (ci := 4) (v := .ref q_1) (ty := .object "LendThreads$Rows") (C := RX4) (T := TX4) (N := 12) hx hb hts iX4_init_X4 tyX4 tyX4_ok nmX4 hown hKK.1 hP hD hS 0 rfl rfl 1 (by decide) (hts (.fieldLink RX4 14 "LendThreads$Work" "wanted" "LLendThreads$Rows;") (by decide +kernel)) (fun _ h9 => h9) rfl hin rfl (by decide +kernel) rfl rfl (Nat.le_of_ble_eq_true rfl) dX4_init_15 (fun H locs hP hD hS => ?_)
  have hP : va_P (dC, dI) vwCl [(h0, .inr (4, [.int 0, .ref q_1, .null, .int 0, .int 0, .int 0, .int 0, .int 0, .int 0, .int 0, .int 0, .int 0])), (q_1, .inr (2, [.int 4, .ref q_2, .ref q_3])), (q_2, .inl (cI, 10, .inl (fun _ => 0))), (q_3, .inl (cI, 40, .inl (fun _ => 0)))] H := hP
  have hD : va_D A [(h0, .inr (4, [.int 0, .ref q_1, .null, .int 0, .int 0, .int 0, .int 0, .int 0, .int 0, .int 0, .int 0, .int 0])), (q_1, .inr (2, [.int 4, .ref q_2, .ref q_3])), (q_2, .inl (cI, 10, .inl (fun _ => 0))), (q_3, .inl (cI, 40, .inl (fun _ => 0)))] := hD
  refine lv_aload_n hx hb dX4_init_18 rfl (lv_at hl 0 rfl) ?_
  refine va_new (ci := 2) (fs := [.int 0, .null, .null]) (C := RX2) (T := TX2) (N := 3) hx hb hts iX4_init_X2 tyX2 tyX2_ok hown (hts (.classLink RX4 9 RX2) (by decide +kernel)) (hts (.instantiable RX2 3) (by decide +kernel)) (hts (.initialized RX2) (by decide +kernel)) hKK.1 hP hD hS hA rfl (fun j hj => by rcases (show j = 0 ∨ j = 1 ∨ j = 2 by omega) with rfl | rfl | rfl <;> rfl) (show 0 + 1 + 2 + 1 ≤ 6 by omega) (show 0 + 3 + 50 + 3 ≤ 86 by omega) dX4_init_19 (fun q_4 H hP hD hS => ?_)
  have hP : va_P (dC, dI) vwCl [(h0, .inr (4, [.int 0, .ref q_1, .null, .int 0, .int 0, .int 0, .int 0, .int 0, .int 0, .int 0, .int 0, .int 0])), (q_1, .inr (2, [.int 4, .ref q_2, .ref q_3])), (q_2, .inl (cI, 10, .inl (fun _ => 0))), (q_3, .inl (cI, 40, .inl (fun _ => 0))), (q_4, .inr (2, [.int 0, .null, .null]))] H := hP
  have hD : va_D A [(h0, .inr (4, [.int 0, .ref q_1, .null, .int 0, .int 0, .int 0, .int 0, .int 0, .int 0, .int 0, .int 0, .int 0])), (q_1, .inr (2, [.int 4, .ref q_2, .ref q_3])), (q_2, .inl (cI, 10, .inl (fun _ => 0))), (q_3, .inl (cI, 40, .inl (fun _ => 0))), (q_4, .inr (2, [.int 0, .null, .null]))] := hD
  refine lv_dup hx hb dX4_init_22 rfl ?_
  refine lv_bipush (v := 10) hx hb dX4_init_23 (by decide) ?_
  refine lv_iconst (v := 2) hx hb dX4_init_25 (by decide) ?_
  have hPc := hP.sub (ws' := [(q_4, .inr (2, [.int 0, .null, .null]))]) [4] rfl
  have hDc := hD.sub (ws' := [(q_4, .inr (2, [.int 0, .null, .null]))]) [4] (by decide) rfl
  have hFc := va_free (wc := [(q_4, .inr (2, [.int 0, .null, .null]))]) hD hS hA [4] rfl
  refine va_callv (va_runI (As := [.int 10, .int 2]) (rest := [.ref q_4, .ref h0]) ⟨hx, hb, hml, hown, hts⟩ (c_Rows_init l dC dI cI H.size q_4 10 2 10 20 (by decide) (by decide) (by decide) (by decide) (by decide) (by decide)) (cwI 2 hts gX4_init_X2_init rfl rfl rfl (hts (.initialized RX2) (by decide +kernel)) (hts (.methodLink RX4 11 yX2_init) (by decide +kernel)) (hts (.instanceMethod yX2_init) (by decide +kernel)) rfl (by decide +kernel) ⟨Nat.le_of_ble_eq_true rfl, Nat.le_of_ble_eq_true rfl⟩) (uP_preS hKK hPc hDc) rfl rfl hl.1 rfl (lv_room (Nat.le_of_ble_eq_true rfl)) dX4_init_26 ⟨(show 0 + 1 + 2 + 1 + 2 ≤ 6 by omega), (show 0 + 3 + 50 + 3 + 30 ≤ 86 by omega)⟩) hS (fun q _ h => hFc q h) hFc (fun u t H1 locs ht hvm hw hB hz1 hk1 hS => ?_)
  obtain ⟨q_5, q_6⟩ := u
  obtain ⟨hP1, hD1⟩ := hB
  rw [ht] at hP1
  obtain ⟨hP, hD⟩ := va_join (wr := [(h0, .inr (4, [.int 0, .ref q_1, .null, .int 0, .int 0, .int 0, .int 0, .int 0, .int 0, .int 0, .int 0, .int 0])), (q_1, .inr (2, [.int 4, .ref q_2, .ref q_3])), (q_2, .inl (cI, 10, .inl (fun _ => 0))), (q_3, .inl (cI, 40, .inl (fun _ => 0)))]) (w1 := [(q_4, .inr (2, [.int 2, .ref q_5, .ref q_6])), (q_5, .inl (cI, 10, .inl (fun _ => 0))), (q_6, .inl (cI, 20, .inl (fun _ => 0)))]) hP hD [4] [0, 1, 2, 3] rfl rfl (by decide) (by decide) hk1 hFc hP1 hD1
  generalize H1 = H at hP hS ⊢
  have hP : va_P (dC, dI) vwCl [(h0, .inr (4, [.int 0, .ref q_1, .null, .int 0, .int 0, .int 0, .int 0, .int 0, .int 0, .int 0, .int 0, .int 0])), (q_1, .inr (2, [.int 4, .ref q_2, .ref q_3])), (q_2, .inl (cI, 10, .inl (fun _ => 0))), (q_3, .inl (cI, 40, .inl (fun _ => 0))), (q_4, .inr (2, [.int 2, .ref q_5, .ref q_6])), (q_5, .inl (cI, 10, .inl (fun _ => 0))), (q_6, .inl (cI, 20, .inl (fun _ => 0)))] H := hP
  have hD : va_D A [(h0, .inr (4, [.int 0, .ref q_1, .null, .int 0, .int 0, .int 0, .int 0, .int 0, .int 0, .int 0, .int 0, .int 0])), (q_1, .inr (2, [.int 4, .ref q_2, .ref q_3])), (q_2, .inl (cI, 10, .inl (fun _ => 0))), (q_3, .inl (cI, 40, .inl (fun _ => 0))), (q_4, .inr (2, [.int 2, .ref q_5, .ref q_6])), (q_5, .inl (cI, 10, .inl (fun _ => 0))), (q_6, .inl (cI, 20, .inl (fun _ => 0)))] := hD
  refine va_putF (D := (dC, dI)) (ci := 4) (v := .ref q_4) (ty := .object "LendThreads$Rows") (C := RX4) (T := TX4) (N := 12) hx hb hts iX4_init_X4 tyX4 tyX4_ok nmX4 hown hKK.1 hP hD hS 0 rfl rfl 2 (by decide) (hts (.fieldLink RX4 20 "LendThreads$Work" "receivers" "LLendThreads$Rows;") (by decide +kernel)) (fun _ h9 => h9) rfl hin rfl (by decide +kernel) rfl rfl (Nat.le_of_ble_eq_true rfl) dX4_init_29 (fun H locs hP hD hS => ?_)
  have hP : va_P (dC, dI) vwCl [(h0, .inr (4, [.int 0, .ref q_1, .ref q_4, .int 0, .int 0, .int 0, .int 0, .int 0, .int 0, .int 0, .int 0, .int 0])), (q_1, .inr (2, [.int 4, .ref q_2, .ref q_3])), (q_2, .inl (cI, 10, .inl (fun _ => 0))), (q_3, .inl (cI, 40, .inl (fun _ => 0))), (q_4, .inr (2, [.int 2, .ref q_5, .ref q_6])), (q_5, .inl (cI, 10, .inl (fun _ => 0))), (q_6, .inl (cI, 20, .inl (fun _ => 0)))] H := hP
  have hD : va_D A [(h0, .inr (4, [.int 0, .ref q_1, .ref q_4, .int 0, .int 0, .int 0, .int 0, .int 0, .int 0, .int 0, .int 0, .int 0])), (q_1, .inr (2, [.int 4, .ref q_2, .ref q_3])), (q_2, .inl (cI, 10, .inl (fun _ => 0))), (q_3, .inl (cI, 40, .inl (fun _ => 0))), (q_4, .inr (2, [.int 2, .ref q_5, .ref q_6])), (q_5, .inl (cI, 10, .inl (fun _ => 0))), (q_6, .inl (cI, 20, .inl (fun _ => 0)))] := hD
  refine lv_aload_n hx hb dX4_init_32 rfl (lv_at hl 0 rfl) ?_
  refine lv_iconst (v := (-1)) hx hb dX4_init_33 (by decide) ?_
  refine va_put (D := (dC, dI)) (ci := 4) (v := .int (-1)) (ty := .int) (C := RX4) (T := TX4) (N := 12) hx hb hts iX4_init_X4 tyX4 tyX4_ok nmX4 hown hKK.1 hP hD hS 0 rfl rfl 4 (by decide) (hts (.fieldLink RX4 23 "LendThreads$Work" "failsAt" "I") (by decide +kernel)) (fun _ h9 => h9) rfl (by decide +kernel) rfl rfl (Nat.le_of_ble_eq_true rfl) dX4_init_34 (fun H locs hP hD hS => ?_)
  have hP : va_P (dC, dI) vwCl [(h0, .inr (4, [.int 0, .ref q_1, .ref q_4, .int 0, .int (-1), .int 0, .int 0, .int 0, .int 0, .int 0, .int 0, .int 0])), (q_1, .inr (2, [.int 4, .ref q_2, .ref q_3])), (q_2, .inl (cI, 10, .inl (fun _ => 0))), (q_3, .inl (cI, 40, .inl (fun _ => 0))), (q_4, .inr (2, [.int 2, .ref q_5, .ref q_6])), (q_5, .inl (cI, 10, .inl (fun _ => 0))), (q_6, .inl (cI, 20, .inl (fun _ => 0)))] H := hP
  have hD : va_D A [(h0, .inr (4, [.int 0, .ref q_1, .ref q_4, .int 0, .int (-1), .int 0, .int 0, .int 0, .int 0, .int 0, .int 0, .int 0])), (q_1, .inr (2, [.int 4, .ref q_2, .ref q_3])), (q_2, .inl (cI, 10, .inl (fun _ => 0))), (q_3, .inl (cI, 40, .inl (fun _ => 0))), (q_4, .inr (2, [.int 2, .ref q_5, .ref q_6])), (q_5, .inl (cI, 10, .inl (fun _ => 0))), (q_6, .inl (cI, 20, .inl (fun _ => 0)))] := hD
  refine lv_aload_n hx hb dX4_init_37 rfl (lv_at hl 0 rfl) ?_
  refine lv_iconst (v := 0) hx hb dX4_init_38 (by decide) ?_
  refine va_put (D := (dC, dI)) (ci := 4) (v := .int 0) (ty := .int) (C := RX4) (T := TX4) (N := 12) hx hb hts iX4_init_X4 tyX4 tyX4_ok nmX4 hown hKK.1 hP hD hS 0 rfl rfl 5 (by decide) (hts (.fieldLink RX4 27 "LendThreads$Work" "state" "I") (by decide +kernel)) (fun _ h9 => h9) rfl (by decide +kernel) rfl rfl (Nat.le_of_ble_eq_true rfl) dX4_init_39 (fun H locs hP hD hS => ?_)
  have hP : va_P (dC, dI) vwCl [(h0, .inr (4, [.int 0, .ref q_1, .ref q_4, .int 0, .int (-1), .int 0, .int 0, .int 0, .int 0, .int 0, .int 0, .int 0])), (q_1, .inr (2, [.int 4, .ref q_2, .ref q_3])), (q_2, .inl (cI, 10, .inl (fun _ => 0))), (q_3, .inl (cI, 40, .inl (fun _ => 0))), (q_4, .inr (2, [.int 2, .ref q_5, .ref q_6])), (q_5, .inl (cI, 10, .inl (fun _ => 0))), (q_6, .inl (cI, 20, .inl (fun _ => 0)))] H := hP
  have hD : va_D A [(h0, .inr (4, [.int 0, .ref q_1, .ref q_4, .int 0, .int (-1), .int 0, .int 0, .int 0, .int 0, .int 0, .int 0, .int 0])), (q_1, .inr (2, [.int 4, .ref q_2, .ref q_3])), (q_2, .inl (cI, 10, .inl (fun _ => 0))), (q_3, .inl (cI, 40, .inl (fun _ => 0))), (q_4, .inr (2, [.int 2, .ref q_5, .ref q_6])), (q_5, .inl (cI, 10, .inl (fun _ => 0))), (q_6, .inl (cI, 20, .inl (fun _ => 0)))] := hD
  refine lv_aload_n hx hb dX4_init_42 rfl (lv_at hl 0 rfl) ?_
  refine lv_iconst (v := 0) hx hb dX4_init_43 (by decide) ?_
  refine va_put (D := (dC, dI)) (ci := 4) (v := .int 0) (ty := .int) (C := RX4) (T := TX4) (N := 12) hx hb hts iX4_init_X4 tyX4 tyX4_ok nmX4 hown hKK.1 hP hD hS 0 rfl rfl 11 (by decide) (hts (.fieldLink RX4 30 "LendThreads$Work" "latest" "I") (by decide +kernel)) (fun _ h9 => h9) rfl (by decide +kernel) rfl rfl (Nat.le_of_ble_eq_true rfl) dX4_init_44 (fun H locs hP hD hS => ?_)
  have hP : va_P (dC, dI) vwCl [(h0, .inr (4, [.int 0, .ref q_1, .ref q_4, .int 0, .int (-1), .int 0, .int 0, .int 0, .int 0, .int 0, .int 0, .int 0])), (q_1, .inr (2, [.int 4, .ref q_2, .ref q_3])), (q_2, .inl (cI, 10, .inl (fun _ => 0))), (q_3, .inl (cI, 40, .inl (fun _ => 0))), (q_4, .inr (2, [.int 2, .ref q_5, .ref q_6])), (q_5, .inl (cI, 10, .inl (fun _ => 0))), (q_6, .inl (cI, 20, .inl (fun _ => 0)))] H := hP
  have hD : va_D A [(h0, .inr (4, [.int 0, .ref q_1, .ref q_4, .int 0, .int (-1), .int 0, .int 0, .int 0, .int 0, .int 0, .int 0, .int 0])), (q_1, .inr (2, [.int 4, .ref q_2, .ref q_3])), (q_2, .inl (cI, 10, .inl (fun _ => 0))), (q_3, .inl (cI, 40, .inl (fun _ => 0))), (q_4, .inr (2, [.int 2, .ref q_5, .ref q_6])), (q_5, .inl (cI, 10, .inl (fun _ => 0))), (q_6, .inl (cI, 20, .inl (fun _ => 0)))] := hD
  refine lv_aload_n hx hb dX4_init_47 rfl (lv_at hl 0 rfl) ?_
  refine lv_iload_n hx hb dX4_init_48 rfl (lv_at hl 1 rfl) ?_
  refine va_putF (D := (dC, dI)) (ci := 4) (v := .int k) (ty := .int) (C := RX4) (T := TX4) (N := 12) hx hb hts iX4_init_X4 tyX4 tyX4_ok nmX4 hown hKK.1 hP hD hS 0 rfl rfl 0 (by decide) (hts (.fieldLink RX4 33 "LendThreads$Work" "number" "I") (by decide +kernel)) (fun _ h9 => h9) rfl hin rfl (by decide +kernel) rfl rfl (Nat.le_of_ble_eq_true rfl) dX4_init_49 (fun H locs hP hD hS => ?_)
  have hP : va_P (dC, dI) vwCl [(h0, .inr (4, [.int k, .ref q_1, .ref q_4, .int 0, .int (-1), .int 0, .int 0, .int 0, .int 0, .int 0, .int 0, .int 0])), (q_1, .inr (2, [.int 4, .ref q_2, .ref q_3])), (q_2, .inl (cI, 10, .inl (fun _ => 0))), (q_3, .inl (cI, 40, .inl (fun _ => 0))), (q_4, .inr (2, [.int 2, .ref q_5, .ref q_6])), (q_5, .inl (cI, 10, .inl (fun _ => 0))), (q_6, .inl (cI, 20, .inl (fun _ => 0)))] H := hP
  have hD : va_D A [(h0, .inr (4, [.int k, .ref q_1, .ref q_4, .int 0, .int (-1), .int 0, .int 0, .int 0, .int 0, .int 0, .int 0, .int 0])), (q_1, .inr (2, [.int 4, .ref q_2, .ref q_3])), (q_2, .inl (cI, 10, .inl (fun _ => 0))), (q_3, .inl (cI, 40, .inl (fun _ => 0))), (q_4, .inr (2, [.int 2, .ref q_5, .ref q_6])), (q_5, .inl (cI, 10, .inl (fun _ => 0))), (q_6, .inl (cI, 20, .inl (fun _ => 0)))] := hD
  refine W.widen (k := 6) (n := 86) (by omega) (by omega) ?_
  have hP9 := hP.sub (ws' := [(h0, .inr (4, [.int k, .ref q_1, .ref q_4, .int 0, .int (-1), .int 0, .int 0, .int 0, .int 0, .int 0, .int 0, .int 0])), (q_1, .inr (2, [.int 4, .ref q_2, .ref q_3])), (q_2, .inl (cI, 10, .inl (fun _ => 0))), (q_3, .inl (cI, 40, .inl (fun _ => 0))), (q_4, .inr (2, [.int 2, .ref q_5, .ref q_6])), (q_5, .inl (cI, 10, .inl (fun _ => 0))), (q_6, .inl (cI, 20, .inl (fun _ => 0)))]) [0, 1, 2, 3, 4, 5, 6] rfl
  have hD9 := hD.sub (ws' := [(h0, .inr (4, [.int k, .ref q_1, .ref q_4, .int 0, .int (-1), .int 0, .int 0, .int 0, .int 0, .int 0, .int 0, .int 0])), (q_1, .inr (2, [.int 4, .ref q_2, .ref q_3])), (q_2, .inl (cI, 10, .inl (fun _ => 0))), (q_3, .inl (cI, 40, .inl (fun _ => 0))), (q_4, .inr (2, [.int 2, .ref q_5, .ref q_6])), (q_5, .inl (cI, 10, .inl (fun _ => 0))), (q_6, .inl (cI, 20, .inl (fun _ => 0)))]) [0, 1, 2, 3, 4, 5, 6] (by decide) rfl
  exact W.vret hx hb hr (fun t ht hW => ⟨⟨(q_1, q_2, q_3, q_4, q_5, q_6), rfl, trivial, by rw [ht]; exact hP9, hD9⟩, hS.F ht⟩) hS.2.2 dX4_init_52
theorem iX1_init_X1 : ∀ w ∈ u_ws RX1 TX1 3, w ∈ wsX1_init := by decide +kernel
set_option maxHeartbeats 4000000 in
set_option maxRecDepth 100000 in
/-- Post() -/
theorem c_Post_init (l : Launch) (dC : Nat → ClassId) (dI : Nat → Nat → Nat) (cI : ClassId) (sz : Nat) (h0 : Nat) : Met l yX1_init wsX1_init ({ frames := 1, cells := 2, slots := 288, locals := 12 }) (uP dC dI cI [.ref h0] [(h0, .inr (1, [.null, .null, .int 0]))] sz) (va_Qv (fun _ => True) (fun (u : Nat × Nat) t => uB dC dI (va_A [(h0, .inr (1, [.null, .null, .int 0]))] sz) [(h0, .inr (1, [.ref u.1, .ref u.2, .int 0])), (u.1, .inl (cI, 144, .inl (fun _ => 0))), (u.2, .inl (cI, 144, .inl (fun _ => 0)))] t) (va_A [(h0, .inr (1, [.null, .null, .int 0]))] sz)) 2 288 (va_A [(h0, .inr (1, [.null, .null, .int 0]))] sz) := by
  refine Met.ofW (cc := cX1_init) (maxL := 1) (ret := none) (by decide) rfl ?_
  intro p e s m args below meth c s₁ B hml hv
  obtain ⟨rfl, hsz, hP, hKK, hD0⟩ := hv
  have hx := B.exec
  have hb := B.bytes
  have hr := B.returns
  have hts := atoms_spec (ws := wsX1_init) B.pre
  have hown : s.vm.findClass RX1 = some m.cls := findClass_of_methodNamed B.named
  have hlocks := B.notSynchronized
  have hin : meth.name = "<init>" := (name_of_methodNamed B.named B.method).1
  subst hsz
  have hD := hD0.self (sz := s.heap.size)
  generalize hAe : va_A [(h0, .inr (1, [.null, .null, .int 0]))] s.heap.size = A at hD ⊢
  have hA : ∀ q : Nat, s.heap.size ≤ q → A q := fun q h => by rw [← hAe]; exact Or.inr h
  have hS : va_S A s.heap s.heap [] := va_S.rf
  have hP : va_P (dC, dI) vwCl [(h0, .inr (1, [.null, .null, .int 0]))] s.heap := hP
  have hl := lv_entry ([.ref h0]) (n := 1) (Nat.le_of_ble_eq_true rfl)
  rw [lg_entry_eq]
  generalize (lg_sl ([.ref h0]) ++ List.replicate (1 - (lg_sl ([.ref h0])).length) Slot.unset).toArray = ls at hl ⊢
  have hl : lv_has ls 1 [(0, .ref h0)] := hl
  refine lv_aload_n hx hb dX1_init_0 rfl (lv_at hl 0 rfl) ?_
  refine W.objInit hx hb hown (hts (.methodLink RX1 3 objectInit) (by decide +kernel)) (hts (.instanceMethod objectInit) (by decide +kernel)) (hts (.code objectInit ⟨#[0xb1]⟩ 1 none) (by decide +kernel)) rfl (by rw [hml]; exact hl.1) rfl dX1_init_1 (Nat.le_of_ble_eq_true rfl) (Nat.le_of_ble_eq_true rfl) ?_
  refine W.eq (g2 := F0 m 4 ls []) rfl ?_
  refine lv_aload_n hx hb dX1_init_4 rfl (lv_at hl 0 rfl) ?_
  refine lv_sipush (v := 144) hx hb dX1_init_5 (by decide) ?_
  refine bn_newI hx hb (hts (.arrayClass .int) (by decide +kernel)) hKK hP hD hS hA (by decide) (by decide) (by decide) (show 0 + 1 ≤ 2 by omega) (show 0 + 144 ≤ 288 by omega) dX1_init_8 (fun q_1 H hP hD hS => ?_)
  have hP : va_P (dC, dI) vwCl [(h0, .inr (1, [.null, .null, .int 0])), (q_1, .inl (cI, 144, .inl (fun _ => 0)))] H := hP
  have hD : va_D A [(h0, .inr (1, [.null, .null, .int 0])), (q_1, .inl (cI, 144, .inl (fun _ => 0)))] := hD
  refine va_putF (D := (dC, dI)) (ci := 1) (v := .ref q_1) (ty := .array .int) (C := RX1) (T := TX1) (N := 3) hx hb hts iX1_init_X1 tyX1 tyX1_ok nmX1 hown hKK.1 hP hD hS 0 rfl rfl 0 (by decide) (hts (.fieldLink RX1 9 "LendThreads$Post" "there" "[I") (by decide +kernel)) (fun _ h9 => h9) rfl hin rfl (by decide +kernel) rfl rfl (Nat.le_of_ble_eq_true rfl) dX1_init_10 (fun H locs hP hD hS => ?_)
  have hP : va_P (dC, dI) vwCl [(h0, .inr (1, [.ref q_1, .null, .int 0])), (q_1, .inl (cI, 144, .inl (fun _ => 0)))] H := hP
  have hD : va_D A [(h0, .inr (1, [.ref q_1, .null, .int 0])), (q_1, .inl (cI, 144, .inl (fun _ => 0)))] := hD
  refine lv_aload_n hx hb dX1_init_13 rfl (lv_at hl 0 rfl) ?_
  refine lv_sipush (v := 144) hx hb dX1_init_14 (by decide) ?_
  refine bn_newI hx hb (hts (.arrayClass .int) (by decide +kernel)) hKK hP hD hS hA (by decide) (by decide) (by decide) (show 0 + 1 + 1 ≤ 2 by omega) (show 0 + 144 + 144 ≤ 288 by omega) dX1_init_17 (fun q_2 H hP hD hS => ?_)
  have hP : va_P (dC, dI) vwCl [(h0, .inr (1, [.ref q_1, .null, .int 0])), (q_1, .inl (cI, 144, .inl (fun _ => 0))), (q_2, .inl (cI, 144, .inl (fun _ => 0)))] H := hP
  have hD : va_D A [(h0, .inr (1, [.ref q_1, .null, .int 0])), (q_1, .inl (cI, 144, .inl (fun _ => 0))), (q_2, .inl (cI, 144, .inl (fun _ => 0)))] := hD
  refine va_putF (D := (dC, dI)) (ci := 1) (v := .ref q_2) (ty := .array .int) (C := RX1) (T := TX1) (N := 3) hx hb hts iX1_init_X1 tyX1 tyX1_ok nmX1 hown hKK.1 hP hD hS 0 rfl rfl 1 (by decide) (hts (.fieldLink RX1 15 "LendThreads$Post" "lost" "[I") (by decide +kernel)) (fun _ h9 => h9) rfl hin rfl (by decide +kernel) rfl rfl (Nat.le_of_ble_eq_true rfl) dX1_init_19 (fun H locs hP hD hS => ?_)
  have hP : va_P (dC, dI) vwCl [(h0, .inr (1, [.ref q_1, .ref q_2, .int 0])), (q_1, .inl (cI, 144, .inl (fun _ => 0))), (q_2, .inl (cI, 144, .inl (fun _ => 0)))] H := hP
  have hD : va_D A [(h0, .inr (1, [.ref q_1, .ref q_2, .int 0])), (q_1, .inl (cI, 144, .inl (fun _ => 0))), (q_2, .inl (cI, 144, .inl (fun _ => 0)))] := hD
  refine W.widen (k := 2) (n := 288) (by omega) (by omega) ?_
  have hP9 := hP.sub (ws' := [(h0, .inr (1, [.ref q_1, .ref q_2, .int 0])), (q_1, .inl (cI, 144, .inl (fun _ => 0))), (q_2, .inl (cI, 144, .inl (fun _ => 0)))]) [0, 1, 2] rfl
  have hD9 := hD.sub (ws' := [(h0, .inr (1, [.ref q_1, .ref q_2, .int 0])), (q_1, .inl (cI, 144, .inl (fun _ => 0))), (q_2, .inl (cI, 144, .inl (fun _ => 0)))]) [0, 1, 2] (by decide) rfl
  exact W.vret hx hb hr (fun t ht hW => ⟨⟨(q_1, q_2), rfl, trivial, by rw [ht]; exact hP9, hD9⟩, hS.F ht⟩) hS.2.2 dX1_init_22
theorem iX0_init_X0 : ∀ w ∈ u_ws RX0 TX0 1, w ∈ wsX0_init := by decide +kernel
theorem iX0_init_X2 : ∀ w ∈ u_ws RX2 TX2 3, w ∈ wsX0_init := by decide +kernel
set_option maxHeartbeats 4000000 in
set_option maxRecDepth 100000 in
/-- Diary() -/
theorem c_Diary_init (l : Launch) (dC : Nat → ClassId) (dI : Nat → Nat → Nat) (cI : ClassId) (sz : Nat) (h0 : Nat) : Met l yX0_init wsX0_init ({ frames := 2, cells := 3, slots := 304, locals := 34 }) (uP dC dI cI [.ref h0] [(h0, .inr (0, [.null]))] sz) (va_Qv (fun _ => True) (fun (u : Nat × Nat × Nat) t => uB dC dI (va_A [(h0, .inr (0, [.null]))] sz) [(h0, .inr (0, [.ref u.1])), (u.1, .inr (2, [.int 300, .ref u.2.1, .ref u.2.2])), (u.2.1, .inl (cI, 1, .inl (fun _ => 0))), (u.2.2, .inl (cI, 300, .inl (fun _ => 0)))] t) (va_A [(h0, .inr (0, [.null]))] sz)) 3 304 (va_A [(h0, .inr (0, [.null]))] sz) := by
  refine Met.ofW (cc := cX0_init) (maxL := 1) (ret := none) (by decide) rfl ?_
  intro p e s m args below meth c s₁ B hml hv
  obtain ⟨rfl, hsz, hP, hKK, hD0⟩ := hv
  have hx := B.exec
  have hb := B.bytes
  have hr := B.returns
  have hts := atoms_spec (ws := wsX0_init) B.pre
  have hown : s.vm.findClass RX0 = some m.cls := findClass_of_methodNamed B.named
  have hlocks := B.notSynchronized
  have hin : meth.name = "<init>" := (name_of_methodNamed B.named B.method).1
  subst hsz
  have hD := hD0.self (sz := s.heap.size)
  generalize hAe : va_A [(h0, .inr (0, [.null]))] s.heap.size = A at hD ⊢
  have hA : ∀ q : Nat, s.heap.size ≤ q → A q := fun q h => by rw [← hAe]; exact Or.inr h
  have hS : va_S A s.heap s.heap [] := va_S.rf
  have hP : va_P (dC, dI) vwCl [(h0, .inr (0, [.null]))] s.heap := hP
  have hl := lv_entry ([.ref h0]) (n := 1) (Nat.le_of_ble_eq_true rfl)
  rw [lg_entry_eq]
  generalize (lg_sl ([.ref h0]) ++ List.replicate (1 - (lg_sl ([.ref h0])).length) Slot.unset).toArray = ls at hl ⊢
  have hl : lv_has ls 1 [(0, .ref h0)] := hl
  refine lv_aload_n hx hb dX0_init_0 rfl (lv_at hl 0 rfl) ?_
  refine W.objInit hx hb hown (hts (.methodLink RX0 3 objectInit) (by decide +kernel)) (hts (.instanceMethod objectInit) (by decide +kernel)) (hts (.code objectInit ⟨#[0xb1]⟩ 1 none) (by decide +kernel)) rfl (by rw [hml]; exact hl.1) rfl dX0_init_1 (Nat.le_of_ble_eq_true rfl) (Nat.le_of_ble_eq_true rfl) ?_
  refine W.eq (g2 := F0 m 4 ls []) rfl ?_
  refine lv_aload_n hx hb dX0_init_4 rfl (lv_at hl 0 rfl) ?_
  refine va_new (ci := 2) (fs := [.int 0, .null, .null]) (C := RX2) (T := TX2) (N := 3) hx hb hts iX0_init_X2 tyX2 tyX2_ok hown (hts (.classLink RX0 9 RX2) (by decide +kernel)) (hts (.instantiable RX2 3) (by decide +kernel)) (hts (.initialized RX2) (by decide +kernel)) hKK.1 hP hD hS hA rfl (fun j hj => by rcases (show j = 0 ∨ j = 1 ∨ j = 2 by omega) with rfl | rfl | rfl <;> rfl) (show 0 + 1 ≤ 3 by omega) (show 0 + 3 ≤ 304 by omega) dX0_init_5 (fun q_1 H hP hD hS => ?_)
  have hP : va_P (dC, dI) vwCl [(h0, .inr (0, [.null])), (q_1, .inr (2, [.int 0, .null, .null]))] H := hP
  have hD : va_D A [(h0, .inr (0, [.null])), (q_1, .inr (2, [.int 0, .null, .null]))] := hD
  refine lv_dup hx hb dX0_init_8 rfl ?_
  refine lv_iconst (v := 1) hx hb dX0_init_9 (by decide) ?_
  refine lv_sipush (v := 300) hx hb dX0_init_10 (by decide) ?_
  have hPc := hP.sub (ws' := [(q_1, .inr (2, [.int 0, .null, .null]))]) [1] rfl
  have hDc := hD.sub (ws' := [(q_1, .inr (2, [.int 0, .null, .null]))]) [1] (by decide) rfl
  have hFc := va_free (wc := [(q_1, .inr (2, [.int 0, .null, .null]))]) hD hS hA [1] rfl
  refine va_callv (va_runI (As := [.int 1, .int 300]) (rest := [.ref q_1, .ref h0]) ⟨hx, hb, hml, hown, hts⟩ (c_Rows_init l dC dI cI H.size q_1 1 300 1 300 (by decide) (by decide) (by decide) (by decide) (by decide) (by decide)) (cwI 2 hts gX0_init_X2_init rfl rfl rfl (hts (.initialized RX2) (by decide +kernel)) (hts (.methodLink RX0 11 yX2_init) (by decide +kernel)) (hts (.instanceMethod yX2_init) (by decide +kernel)) rfl (by decide +kernel) ⟨Nat.le_of_ble_eq_true rfl, Nat.le_of_ble_eq_true rfl⟩) (uP_preS hKK hPc hDc) rfl rfl hl.1 rfl (lv_room (Nat.le_of_ble_eq_true rfl)) dX0_init_13 ⟨(show 0 + 1 + 2 ≤ 3 by omega), (show 0 + 3 + 301 ≤ 304 by omega)⟩) hS (fun q _ h => hFc q h) hFc (fun u t H1 locs ht hvm hw hB hz1 hk1 hS => ?_)
  obtain ⟨q_2, q_3⟩ := u
  obtain ⟨hP1, hD1⟩ := hB
  rw [ht] at hP1
  obtain ⟨hP, hD⟩ := va_join (wr := [(h0, .inr (0, [.null]))]) (w1 := [(q_1, .inr (2, [.int 300, .ref q_2, .ref q_3])), (q_2, .inl (cI, 1, .inl (fun _ => 0))), (q_3, .inl (cI, 300, .inl (fun _ => 0)))]) hP hD [1] [0] rfl rfl (by decide) (by decide) hk1 hFc hP1 hD1
  generalize H1 = H at hP hS ⊢
  have hP : va_P (dC, dI) vwCl [(h0, .inr (0, [.null])), (q_1, .inr (2, [.int 300, .ref q_2, .ref q_3])), (q_2, .inl (cI, 1, .inl (fun _ => 0))), (q_3, .inl (cI, 300, .inl (fun _ => 0)))] H := hP
  have hD : va_D A [(h0, .inr (0, [.null])), (q_1, .inr (2, [.int 300, .ref q_2, .ref q_3])), (q_2, .inl (cI, 1, .inl (fun _ => 0))), (q_3, .inl (cI, 300, .inl (fun _ => 0)))] := hD
  refine va_putF (D := (dC, dI)) (ci := 0) (v := .ref q_1) (ty := .object "LendThreads$Rows") (C := RX0) (T := TX0) (N := 1) hx hb hts iX0_init_X0 tyX0 tyX0_ok nmX0 hown hKK.1 hP hD hS 0 rfl rfl 0 (by decide) (hts (.fieldLink RX0 14 "LendThreads$Diary" "lines" "LLendThreads$Rows;") (by decide +kernel)) (fun _ h9 => h9) rfl hin rfl (by decide +kernel) rfl rfl (Nat.le_of_ble_eq_true rfl) dX0_init_16 (fun H locs hP hD hS => ?_)
  have hP : va_P (dC, dI) vwCl [(h0, .inr (0, [.ref q_1])), (q_1, .inr (2, [.int 300, .ref q_2, .ref q_3])), (q_2, .inl (cI, 1, .inl (fun _ => 0))), (q_3, .inl (cI, 300, .inl (fun _ => 0)))] H := hP
  have hD : va_D A [(h0, .inr (0, [.ref q_1])), (q_1, .inr (2, [.int 300, .ref q_2, .ref q_3])), (q_2, .inl (cI, 1, .inl (fun _ => 0))), (q_3, .inl (cI, 300, .inl (fun _ => 0)))] := hD
  refine W.widen (k := 3) (n := 304) (by omega) (by omega) ?_
  have hP9 := hP.sub (ws' := [(h0, .inr (0, [.ref q_1])), (q_1, .inr (2, [.int 300, .ref q_2, .ref q_3])), (q_2, .inl (cI, 1, .inl (fun _ => 0))), (q_3, .inl (cI, 300, .inl (fun _ => 0)))]) [0, 1, 2, 3] rfl
  have hD9 := hD.sub (ws' := [(h0, .inr (0, [.ref q_1])), (q_1, .inr (2, [.int 300, .ref q_2, .ref q_3])), (q_2, .inl (cI, 1, .inl (fun _ => 0))), (q_3, .inl (cI, 300, .inl (fun _ => 0)))]) [0, 1, 2, 3] (by decide) rfl
  exact W.vret hx hb hr (fun t ht hW => ⟨⟨(q_1, q_2, q_3), rfl, trivial, by rw [ht]; exact hP9, hD9⟩, hS.F ht⟩) hS.2.2 dX0_init_19
set_option maxHeartbeats 4000000 in
set_option maxRecDepth 100000 in
/-- Arrays.fill of ten -/
theorem c_fill10 (l : Launch) (dC : Nat → ClassId) (dI : Nat → Nat → Nat) (cI : ClassId) (sz : Nat) (h1 : Nat) (f : Nat → Int32) (v : Int32) : Met l yJ7_fill_53178 wsJ7_fill_53178 ({ frames := 0, cells := 0, slots := 0, locals := 0 }) (uP dC dI cI [.ref h1, .int v] [(h1, .inl (cI, 10, .inl f))] sz) (va_Qv (fun f2 => ∀ j, j < 10 → f2 j = v) (fun (u : Nat → Int32) t => uB dC dI (va_A [(h1, .inl (cI, 10, .inl f))] sz) [(h1, .inl (cI, 10, .inl u))] t) (va_A [(h1, .inl (cI, 10, .inl f))] sz)) 0 0 (va_A [(h1, .inl (cI, 10, .inl f))] sz) := by
  refine Met.ofW (cc := cJ7_fill_53178) (maxL := 4) (ret := none) (by decide) rfl ?_
  intro p e s m args below meth c s₁ B hml hv
  obtain ⟨rfl, hsz, hP, hKK, hD0⟩ := hv
  have hx := B.exec
  have hb := B.bytes
  have hr := B.returns
  have hts := atoms_spec (ws := wsJ7_fill_53178) B.pre
  have hown : s.vm.findClass RJ7 = some m.cls := findClass_of_methodNamed B.named
  have hlocks := B.notSynchronized
  subst hsz
  have hD := hD0.self (sz := s.heap.size)
  generalize hAe : va_A [(h1, .inl (cI, 10, .inl f))] s.heap.size = A at hD ⊢
  have hA : ∀ q : Nat, s.heap.size ≤ q → A q := fun q h => by rw [← hAe]; exact Or.inr h
  have hS : va_S A s.heap s.heap [] := va_S.rf
  have hP : va_P (dC, dI) vwCl [(h1, .inl (cI, 10, .inl f))] s.heap := hP
  have hl := lv_entry ([.ref h1, .int v]) (n := 4) (Nat.le_of_ble_eq_true rfl)
  rw [lg_entry_eq]
  generalize (lg_sl ([.ref h1, .int v]) ++ List.replicate (4 - (lg_sl ([.ref h1, .int v])).length) Slot.unset).toArray = ls at hl ⊢
  have hl : lv_has ls 4 [(0, .ref h1), (1, .int v)] := hl
  refine lv_iconst (v := 0) hx hb dJ7_fill_53178_0 (by decide) ?_
  refine lv_istore_n (lv' := [(2, .int 0), (0, .ref h1), (1, .int v)]) hx hb dJ7_fill_53178_1 rfl hl (by decide) rfl (fun ls hl => ?_)
  refine lv_aload_n hx hb dJ7_fill_53178_2 rfl (lv_at hl 1 rfl) ?_
  refine va_alen (v := 10) hx hb hKK.1 hP 0 0 rfl rfl rfl dJ7_fill_53178_3 ?_
  refine lv_istore_n (lv' := [(3, .int 10), (2, .int 0), (0, .ref h1), (1, .int v)]) hx hb dJ7_fill_53178_4 rfl hl (by decide) rfl (fun ls hl => ?_)
  refine lv_iload_n hx hb dJ7_fill_53178_5 rfl (lv_at hl 1 rfl) ?_
  refine lv_iload_n hx hb dJ7_fill_53178_6 rfl (lv_at hl 0 rfl) ?_
  refine lv_icmp_ge (tgt := 20) hx hb dJ7_fill_53178_7 (by decide) (fun c_2 => ?_) (fun c_2 => ?_)
  · exact absurd c_2 (by decide)
  · refine lv_aload_n hx hb dJ7_fill_53178_10 rfl (lv_at hl 2 rfl) ?_
    refine lv_iload_n hx hb dJ7_fill_53178_11 rfl (lv_at hl 1 rfl) ?_
    refine lv_iload_n hx hb dJ7_fill_53178_12 rfl (lv_at hl 3 rfl) ?_
    refine va_iast hx hb hKK.1 hP hD hS 0 0 rfl rfl (vp_in_iff.mpr (by decide)) dJ7_fill_53178_13 (fun H locs hP hD hS => ?_)
    have hP : va_P (dC, dI) vwCl [(h1, .inl (cI, 10, .inl (upd f (0 : Int32).toNatClampNeg v)))] H := hP
    have hD : va_D A [(h1, .inl (cI, 10, .inl (upd f (0 : Int32).toNatClampNeg v)))] := hD
    refine lv_iinc (v := 1) (lv' := [(2, .int 1), (3, .int 10), (0, .ref h1), (1, .int v)]) hx hb dJ7_fill_53178_14 hl (k := 1) rfl (by decide) (by decide) rfl (fun ls hl => ?_)
    refine lv_goto (tgt := 5) hx hb dJ7_fill_53178_17 (by decide) ?_
    refine lv_iload_n hx hb dJ7_fill_53178_5 rfl (lv_at hl 0 rfl) ?_
    refine lv_iload_n hx hb dJ7_fill_53178_6 rfl (lv_at hl 1 rfl) ?_
    refine lv_icmp_ge (tgt := 20) hx hb dJ7_fill_53178_7 (by decide) (fun c_3 => ?_) (fun c_3 => ?_)
    · exact absurd c_3 (by decide)
    · refine lv_aload_n hx hb dJ7_fill_53178_10 rfl (lv_at hl 2 rfl) ?_
      refine lv_iload_n hx hb dJ7_fill_53178_11 rfl (lv_at hl 0 rfl) ?_
      refine lv_iload_n hx hb dJ7_fill_53178_12 rfl (lv_at hl 3 rfl) ?_
      refine va_iast hx hb hKK.1 hP hD hS 0 0 rfl rfl (vp_in_iff.mpr (by decide)) dJ7_fill_53178_13 (fun H locs hP hD hS => ?_)
      have hP : va_P (dC, dI) vwCl [(h1, .inl (cI, 10, .inl (upd (upd f (0 : Int32).toNatClampNeg v) (1 : Int32).toNatClampNeg v)))] H := hP
      have hD : va_D A [(h1, .inl (cI, 10, .inl (upd (upd f (0 : Int32).toNatClampNeg v) (1 : Int32).toNatClampNeg v)))] := hD
      refine lv_iinc (v := 2) (lv' := [(2, .int 2), (3, .int 10), (0, .ref h1), (1, .int v)]) hx hb dJ7_fill_53178_14 hl (k := 0) rfl (by decide) (by decide) rfl (fun ls hl => ?_)
      refine lv_goto (tgt := 5) hx hb dJ7_fill_53178_17 (by decide) ?_
      refine lv_iload_n hx hb dJ7_fill_53178_5 rfl (lv_at hl 0 rfl) ?_
      refine lv_iload_n hx hb dJ7_fill_53178_6 rfl (lv_at hl 1 rfl) ?_
      refine lv_icmp_ge (tgt := 20) hx hb dJ7_fill_53178_7 (by decide) (fun c_4 => ?_) (fun c_4 => ?_)
      · exact absurd c_4 (by decide)
      · refine lv_aload_n hx hb dJ7_fill_53178_10 rfl (lv_at hl 2 rfl) ?_
        refine lv_iload_n hx hb dJ7_fill_53178_11 rfl (lv_at hl 0 rfl) ?_
        refine lv_iload_n hx hb dJ7_fill_53178_12 rfl (lv_at hl 3 rfl) ?_
        refine va_iast hx hb hKK.1 hP hD hS 0 0 rfl rfl (vp_in_iff.mpr (by decide)) dJ7_fill_53178_13 (fun H locs hP hD hS => ?_)
        have hP : va_P (dC, dI) vwCl [(h1, .inl (cI, 10, .inl (upd (upd (upd f (0 : Int32).toNatClampNeg v) (1 : Int32).toNatClampNeg v) (2 : Int32).toNatClampNeg v)))] H := hP
        have hD : va_D A [(h1, .inl (cI, 10, .inl (upd (upd (upd f (0 : Int32).toNatClampNeg v) (1 : Int32).toNatClampNeg v) (2 : Int32).toNatClampNeg v)))] := hD
        refine lv_iinc (v := 3) (lv' := [(2, .int 3), (3, .int 10), (0, .ref h1), (1, .int v)]) hx hb dJ7_fill_53178_14 hl (k := 0) rfl (by decide) (by decide) rfl (fun ls hl => ?_)
        refine lv_goto (tgt := 5) hx hb dJ7_fill_53178_17 (by decide) ?_
        refine lv_iload_n hx hb dJ7_fill_53178_5 rfl (lv_at hl 0 rfl) ?_
        refine lv_iload_n hx hb dJ7_fill_53178_6 rfl (lv_at hl 1 rfl) ?_
        refine lv_icmp_ge (tgt := 20) hx hb dJ7_fill_53178_7 (by decide) (fun c_5 => ?_) (fun c_5 => ?_)
        · exact absurd c_5 (by decide)
        · refine lv_aload_n hx hb dJ7_fill_53178_10 rfl (lv_at hl 2 rfl) ?_
          refine lv_iload_n hx hb dJ7_fill_53178_11 rfl (lv_at hl 0 rfl) ?_
          refine lv_iload_n hx hb dJ7_fill_53178_12 rfl (lv_at hl 3 rfl) ?_
          refine va_iast hx hb hKK.1 hP hD hS 0 0 rfl rfl (vp_in_iff.mpr (by decide)) dJ7_fill_53178_13 (fun H locs hP hD hS => ?_)
          have hP : va_P (dC, dI) vwCl [(h1, .inl (cI, 10, .inl (upd (upd (upd (upd f (0 : Int32).toNatClampNeg v) (1 : Int32).toNatClampNeg v) (2 : Int32).toNatClampNeg v) (3 : Int32).toNatClampNeg v)))] H := hP
          have hD : va_D A [(h1, .inl (cI, 10, .inl (upd (upd (upd (upd f (0 : Int32).toNatClampNeg v) (1 : Int32).toNatClampNeg v) (2 : Int32).toNatClampNeg v) (3 : Int32).toNatClampNeg v)))] := hD
          refine lv_iinc (v := 4) (lv' := [(2, .int 4), (3, .int 10), (0, .ref h1), (1, .int v)]) hx hb dJ7_fill_53178_14 hl (k := 0) rfl (by decide) (by decide) rfl (fun ls hl => ?_)
          refine lv_goto (tgt := 5) hx hb dJ7_fill_53178_17 (by decide) ?_
          refine lv_iload_n hx hb dJ7_fill_53178_5 rfl (lv_at hl 0 rfl) ?_
          refine lv_iload_n hx hb dJ7_fill_53178_6 rfl (lv_at hl 1 rfl) ?_
          refine lv_icmp_ge (tgt := 20) hx hb dJ7_fill_53178_7 (by decide) (fun c_6 => ?_) (fun c_6 => ?_)
          · exact absurd c_6 (by decide)
          · refine lv_aload_n hx hb dJ7_fill_53178_10 rfl (lv_at hl 2 rfl) ?_
            refine lv_iload_n hx hb dJ7_fill_53178_11 rfl (lv_at hl 0 rfl) ?_
            refine lv_iload_n hx hb dJ7_fill_53178_12 rfl (lv_at hl 3 rfl) ?_
            refine va_iast hx hb hKK.1 hP hD hS 0 0 rfl rfl (vp_in_iff.mpr (by decide)) dJ7_fill_53178_13 (fun H locs hP hD hS => ?_)
            have hP : va_P (dC, dI) vwCl [(h1, .inl (cI, 10, .inl (upd (upd (upd (upd (upd f (0 : Int32).toNatClampNeg v) (1 : Int32).toNatClampNeg v) (2 : Int32).toNatClampNeg v) (3 : Int32).toNatClampNeg v) (4 : Int32).toNatClampNeg v)))] H := hP
            have hD : va_D A [(h1, .inl (cI, 10, .inl (upd (upd (upd (upd (upd f (0 : Int32).toNatClampNeg v) (1 : Int32).toNatClampNeg v) (2 : Int32).toNatClampNeg v) (3 : Int32).toNatClampNeg v) (4 : Int32).toNatClampNeg v)))] := hD
            refine lv_iinc (v := 5) (lv' := [(2, .int 5), (3, .int 10), (0, .ref h1), (1, .int v)]) hx hb dJ7_fill_53178_14 hl (k := 0) rfl (by decide) (by decide) rfl (fun ls hl => ?_)
            refine lv_goto (tgt := 5) hx hb dJ7_fill_53178_17 (by decide) ?_
            refine lv_iload_n hx hb dJ7_fill_53178_5 rfl (lv_at hl 0 rfl) ?_
            refine lv_iload_n hx hb dJ7_fill_53178_6 rfl (lv_at hl 1 rfl) ?_
            refine lv_icmp_ge (tgt := 20) hx hb dJ7_fill_53178_7 (by decide) (fun c_7 => ?_) (fun c_7 => ?_)
            · exact absurd c_7 (by decide)
            · refine lv_aload_n hx hb dJ7_fill_53178_10 rfl (lv_at hl 2 rfl) ?_
              refine lv_iload_n hx hb dJ7_fill_53178_11 rfl (lv_at hl 0 rfl) ?_
              refine lv_iload_n hx hb dJ7_fill_53178_12 rfl (lv_at hl 3 rfl) ?_
              refine va_iast hx hb hKK.1 hP hD hS 0 0 rfl rfl (vp_in_iff.mpr (by decide)) dJ7_fill_53178_13 (fun H locs hP hD hS => ?_)
              have hP : va_P (dC, dI) vwCl [(h1, .inl (cI, 10, .inl (upd (upd (upd (upd (upd (upd f (0 : Int32).toNatClampNeg v) (1 : Int32).toNatClampNeg v) (2 : Int32).toNatClampNeg v) (3 : Int32).toNatClampNeg v) (4 : Int32).toNatClampNeg v) (5 : Int32).toNatClampNeg v)))] H := hP
              have hD : va_D A [(h1, .inl (cI, 10, .inl (upd (upd (upd (upd (upd (upd f (0 : Int32).toNatClampNeg v) (1 : Int32).toNatClampNeg v) (2 : Int32).toNatClampNeg v) (3 : Int32).toNatClampNeg v) (4 : Int32).toNatClampNeg v) (5 : Int32).toNatClampNeg v)))] := hD
              refine lv_iinc (v := 6) (lv' := [(2, .int 6), (3, .int 10), (0, .ref h1), (1, .int v)]) hx hb dJ7_fill_53178_14 hl (k := 0) rfl (by decide) (by decide) rfl (fun ls hl => ?_)
              refine lv_goto (tgt := 5) hx hb dJ7_fill_53178_17 (by decide) ?_
              refine lv_iload_n hx hb dJ7_fill_53178_5 rfl (lv_at hl 0 rfl) ?_
              refine lv_iload_n hx hb dJ7_fill_53178_6 rfl (lv_at hl 1 rfl) ?_
              refine lv_icmp_ge (tgt := 20) hx hb dJ7_fill_53178_7 (by decide) (fun c_8 => ?_) (fun c_8 => ?_)
              · exact absurd c_8 (by decide)
              · refine lv_aload_n hx hb dJ7_fill_53178_10 rfl (lv_at hl 2 rfl) ?_
                refine lv_iload_n hx hb dJ7_fill_53178_11 rfl (lv_at hl 0 rfl) ?_
                refine lv_iload_n hx hb dJ7_fill_53178_12 rfl (lv_at hl 3 rfl) ?_
                refine va_iast hx hb hKK.1 hP hD hS 0 0 rfl rfl (vp_in_iff.mpr (by decide)) dJ7_fill_53178_13 (fun H locs hP hD hS => ?_)
                have hP : va_P (dC, dI) vwCl [(h1, .inl (cI, 10, .inl (upd (upd (upd (upd (upd (upd (upd f (0 : Int32).toNatClampNeg v) (1 : Int32).toNatClampNeg v) (2 : Int32).toNatClampNeg v) (3 : Int32).toNatClampNeg v) (4 : Int32).toNatClampNeg v) (5 : Int32).toNatClampNeg v) (6 : Int32).toNatClampNeg v)))] H := hP
                have hD : va_D A [(h1, .inl (cI, 10, .inl (upd (upd (upd (upd (upd (upd (upd f (0 : Int32).toNatClampNeg v) (1 : Int32).toNatClampNeg v) (2 : Int32).toNatClampNeg v) (3 : Int32).toNatClampNeg v) (4 : Int32).toNatClampNeg v) (5 : Int32).toNatClampNeg v) (6 : Int32).toNatClampNeg v)))] := hD
                refine lv_iinc (v := 7) (lv' := [(2, .int 7), (3, .int 10), (0, .ref h1), (1, .int v)]) hx hb dJ7_fill_53178_14 hl (k := 0) rfl (by decide) (by decide) rfl (fun ls hl => ?_)
                refine lv_goto (tgt := 5) hx hb dJ7_fill_53178_17 (by decide) ?_
                refine lv_iload_n hx hb dJ7_fill_53178_5 rfl (lv_at hl 0 rfl) ?_
                refine lv_iload_n hx hb dJ7_fill_53178_6 rfl (lv_at hl 1 rfl) ?_
                refine lv_icmp_ge (tgt := 20) hx hb dJ7_fill_53178_7 (by decide) (fun c_9 => ?_) (fun c_9 => ?_)
                · exact absurd c_9 (by decide)
                · refine lv_aload_n hx hb dJ7_fill_53178_10 rfl (lv_at hl 2 rfl) ?_
                  refine lv_iload_n hx hb dJ7_fill_53178_11 rfl (lv_at hl 0 rfl) ?_
                  refine lv_iload_n hx hb dJ7_fill_53178_12 rfl (lv_at hl 3 rfl) ?_
                  refine va_iast hx hb hKK.1 hP hD hS 0 0 rfl rfl (vp_in_iff.mpr (by decide)) dJ7_fill_53178_13 (fun H locs hP hD hS => ?_)
                  have hP : va_P (dC, dI) vwCl [(h1, .inl (cI, 10, .inl (upd (upd (upd (upd (upd (upd (upd (upd f (0 : Int32).toNatClampNeg v) (1 : Int32).toNatClampNeg v) (2 : Int32).toNatClampNeg v) (3 : Int32).toNatClampNeg v) (4 : Int32).toNatClampNeg v) (5 : Int32).toNatClampNeg v) (6 : Int32).toNatClampNeg v) (7 : Int32).toNatClampNeg v)))] H := hP
                  have hD : va_D A [(h1, .inl (cI, 10, .inl (upd (upd (upd (upd (upd (upd (upd (upd f (0 : Int32).toNatClampNeg v) (1 : Int32).toNatClampNeg v) (2 : Int32).toNatClampNeg v) (3 : Int32).toNatClampNeg v) (4 : Int32).toNatClampNeg v) (5 : Int32).toNatClampNeg v) (6 : Int32).toNatClampNeg v) (7 : Int32).toNatClampNeg v)))] := hD
                  refine lv_iinc (v := 8) (lv' := [(2, .int 8), (3, .int 10), (0, .ref h1), (1, .int v)]) hx hb dJ7_fill_53178_14 hl (k := 0) rfl (by decide) (by decide) rfl (fun ls hl => ?_)
                  refine lv_goto (tgt := 5) hx hb dJ7_fill_53178_17 (by decide) ?_
                  refine lv_iload_n hx hb dJ7_fill_53178_5 rfl (lv_at hl 0 rfl) ?_
                  refine lv_iload_n hx hb dJ7_fill_53178_6 rfl (lv_at hl 1 rfl) ?_
                  refine lv_icmp_ge (tgt := 20) hx hb dJ7_fill_53178_7 (by decide) (fun c_10 => ?_) (fun c_10 => ?_)
                  · exact absurd c_10 (by decide)
                  · refine lv_aload_n hx hb dJ7_fill_53178_10 rfl (lv_at hl 2 rfl) ?_
                    refine lv_iload_n hx hb dJ7_fill_53178_11 rfl (lv_at hl 0 rfl) ?_
                    refine lv_iload_n hx hb dJ7_fill_53178_12 rfl (lv_at hl 3 rfl) ?_
                    refine va_iast hx hb hKK.1 hP hD hS 0 0 rfl rfl (vp_in_iff.mpr (by decide)) dJ7_fill_53178_13 (fun H locs hP hD hS => ?_)
                    have hP : va_P (dC, dI) vwCl [(h1, .inl (cI, 10, .inl (upd (upd (upd (upd (upd (upd (upd (upd (upd f (0 : Int32).toNatClampNeg v) (1 : Int32).toNatClampNeg v) (2 : Int32).toNatClampNeg v) (3 : Int32).toNatClampNeg v) (4 : Int32).toNatClampNeg v) (5 : Int32).toNatClampNeg v) (6 : Int32).toNatClampNeg v) (7 : Int32).toNatClampNeg v) (8 : Int32).toNatClampNeg v)))] H := hP
                    have hD : va_D A [(h1, .inl (cI, 10, .inl (upd (upd (upd (upd (upd (upd (upd (upd (upd f (0 : Int32).toNatClampNeg v) (1 : Int32).toNatClampNeg v) (2 : Int32).toNatClampNeg v) (3 : Int32).toNatClampNeg v) (4 : Int32).toNatClampNeg v) (5 : Int32).toNatClampNeg v) (6 : Int32).toNatClampNeg v) (7 : Int32).toNatClampNeg v) (8 : Int32).toNatClampNeg v)))] := hD
                    refine lv_iinc (v := 9) (lv' := [(2, .int 9), (3, .int 10), (0, .ref h1), (1, .int v)]) hx hb dJ7_fill_53178_14 hl (k := 0) rfl (by decide) (by decide) rfl (fun ls hl => ?_)
                    refine lv_goto (tgt := 5) hx hb dJ7_fill_53178_17 (by decide) ?_
                    refine lv_iload_n hx hb dJ7_fill_53178_5 rfl (lv_at hl 0 rfl) ?_
                    refine lv_iload_n hx hb dJ7_fill_53178_6 rfl (lv_at hl 1 rfl) ?_
                    refine lv_icmp_ge (tgt := 20) hx hb dJ7_fill_53178_7 (by decide) (fun c_11 => ?_) (fun c_11 => ?_)
                    · exact absurd c_11 (by decide)
                    · refine lv_aload_n hx hb dJ7_fill_53178_10 rfl (lv_at hl 2 rfl) ?_
                      refine lv_iload_n hx hb dJ7_fill_53178_11 rfl (lv_at hl 0 rfl) ?_
                      refine lv_iload_n hx hb dJ7_fill_53178_12 rfl (lv_at hl 3 rfl) ?_
                      refine va_iast hx hb hKK.1 hP hD hS 0 0 rfl rfl (vp_in_iff.mpr (by decide)) dJ7_fill_53178_13 (fun H locs hP hD hS => ?_)
                      have hP : va_P (dC, dI) vwCl [(h1, .inl (cI, 10, .inl (upd (upd (upd (upd (upd (upd (upd (upd (upd (upd f (0 : Int32).toNatClampNeg v) (1 : Int32).toNatClampNeg v) (2 : Int32).toNatClampNeg v) (3 : Int32).toNatClampNeg v) (4 : Int32).toNatClampNeg v) (5 : Int32).toNatClampNeg v) (6 : Int32).toNatClampNeg v) (7 : Int32).toNatClampNeg v) (8 : Int32).toNatClampNeg v) (9 : Int32).toNatClampNeg v)))] H := hP
                      have hD : va_D A [(h1, .inl (cI, 10, .inl (upd (upd (upd (upd (upd (upd (upd (upd (upd (upd f (0 : Int32).toNatClampNeg v) (1 : Int32).toNatClampNeg v) (2 : Int32).toNatClampNeg v) (3 : Int32).toNatClampNeg v) (4 : Int32).toNatClampNeg v) (5 : Int32).toNatClampNeg v) (6 : Int32).toNatClampNeg v) (7 : Int32).toNatClampNeg v) (8 : Int32).toNatClampNeg v) (9 : Int32).toNatClampNeg v)))] := hD
                      refine lv_iinc (v := 10) (lv' := [(2, .int 10), (3, .int 10), (0, .ref h1), (1, .int v)]) hx hb dJ7_fill_53178_14 hl (k := 0) rfl (by decide) (by decide) rfl (fun ls hl => ?_)
                      refine lv_goto (tgt := 5) hx hb dJ7_fill_53178_17 (by decide) ?_
                      refine lv_iload_n hx hb dJ7_fill_53178_5 rfl (lv_at hl 0 rfl) ?_
                      refine lv_iload_n hx hb dJ7_fill_53178_6 rfl (lv_at hl 1 rfl) ?_
                      refine lv_icmp_ge (tgt := 20) hx hb dJ7_fill_53178_7 (by decide) (fun c_12 => ?_) (fun c_12 => ?_)
                      · refine W.widen (k := 0) (n := 0) (by omega) (by omega) ?_
                        have hP9 := hP.sub (ws' := [(h1, .inl (cI, 10, .inl (upd (upd (upd (upd (upd (upd (upd (upd (upd (upd f (0 : Int32).toNatClampNeg v) (1 : Int32).toNatClampNeg v) (2 : Int32).toNatClampNeg v) (3 : Int32).toNatClampNeg v) (4 : Int32).toNatClampNeg v) (5 : Int32).toNatClampNeg v) (6 : Int32).toNatClampNeg v) (7 : Int32).toNatClampNeg v) (8 : Int32).toNatClampNeg v) (9 : Int32).toNatClampNeg v)))]) [0] rfl
                        have hD9 := hD.sub (ws' := [(h1, .inl (cI, 10, .inl (upd (upd (upd (upd (upd (upd (upd (upd (upd (upd f (0 : Int32).toNatClampNeg v) (1 : Int32).toNatClampNeg v) (2 : Int32).toNatClampNeg v) (3 : Int32).toNatClampNeg v) (4 : Int32).toNatClampNeg v) (5 : Int32).toNatClampNeg v) (6 : Int32).toNatClampNeg v) (7 : Int32).toNatClampNeg v) (8 : Int32).toNatClampNeg v) (9 : Int32).toNatClampNeg v)))]) [0] (by decide) rfl
                        exact W.vret hx hb hr (fun t ht hW => ⟨⟨upd (upd (upd (upd (upd (upd (upd (upd (upd (upd f (0 : Int32).toNatClampNeg v) (1 : Int32).toNatClampNeg v) (2 : Int32).toNatClampNeg v) (3 : Int32).toNatClampNeg v) (4 : Int32).toNatClampNeg v) (5 : Int32).toNatClampNeg v) (6 : Int32).toNatClampNeg v) (7 : Int32).toNatClampNeg v) (8 : Int32).toNatClampNeg v) (9 : Int32).toNatClampNeg v, rfl, (by intro j hj; rcases (show j = 0 ∨ j = 1 ∨ j = 2 ∨ j = 3 ∨ j = 4 ∨ j = 5 ∨ j = 6 ∨ j = 7 ∨ j = 8 ∨ j = 9 by omega) with rfl | rfl | rfl | rfl | rfl | rfl | rfl | rfl | rfl | rfl <;> simp [upd] <;> decide), by rw [ht]; exact hP9, hD9⟩, hS.F ht⟩) hS.2.2 dJ7_fill_53178_20
                      · exact absurd c_12 (by decide)
theorem iX3_init_X2 : ∀ w ∈ u_ws RX2 TX2 3, w ∈ wsX3_init := by decide +kernel
theorem iX3_init_X3 : ∀ w ∈ u_ws RX3 TX3 4, w ∈ wsX3_init := by decide +kernel
set_option maxHeartbeats 4000000 in
set_option maxRecDepth 100000 in
/-- Shelf() -/
theorem c_Shelf_init (l : Launch) (dC : Nat → ClassId) (dI : Nat → Nat → Nat) (cI : ClassId) (sz : Nat) (h0 : Nat) : Met l yX3_init wsX3_init ({ frames := 2, cells := 6, slots := 163, locals := 34 }) (uP dC dI cI [.ref h0] [(h0, .inr (3, [.null, .null, .null, .null]))] sz) (va_Qv (fun u => ∀ j, j < 10 → u.2.2.2.2.2.2 j = -1) (fun (u : Nat × Nat × Nat × Nat × Nat × Nat × (Nat → Int32)) t => uB dC dI (va_A [(h0, .inr (3, [.null, .null, .null, .null]))] sz) [(h0, .inr (3, [.ref u.1, .ref u.2.1, .ref u.2.2.1, .ref u.2.2.2.1])), (u.1, .inl (cI, 10, .inl (fun _ => 0))), (u.2.1, .inl (cI, 10, .inl (fun _ => 0))), (u.2.2.1, .inl (cI, 10, .inl u.2.2.2.2.2.2)), (u.2.2.2.1, .inr (2, [.int 12, .ref u.2.2.2.2.1, .ref u.2.2.2.2.2.1])), (u.2.2.2.2.1, .inl (cI, 10, .inl (fun _ => 0))), (u.2.2.2.2.2.1, .inl (cI, 120, .inl (fun _ => 0)))] t) (va_A [(h0, .inr (3, [.null, .null, .null, .null]))] sz)) 6 163 (va_A [(h0, .inr (3, [.null, .null, .null, .null]))] sz) := by
  refine Met.ofW (cc := cX3_init) (maxL := 1) (ret := none) (by decide) rfl ?_
  intro p e s m args below meth c s₁ B hml hv
  obtain ⟨rfl, hsz, hP, hKK, hD0⟩ := hv
  have hx := B.exec
  have hb := B.bytes
  have hr := B.returns
  have hts := atoms_spec (ws := wsX3_init) B.pre
  have hown : s.vm.findClass RX3 = some m.cls := findClass_of_methodNamed B.named
  have hlocks := B.notSynchronized
  have hin : meth.name = "<init>" := (name_of_methodNamed B.named B.method).1
  subst hsz
  have hD := hD0.self (sz := s.heap.size)
  generalize hAe : va_A [(h0, .inr (3, [.null, .null, .null, .null]))] s.heap.size = A at hD ⊢
  have hA : ∀ q : Nat, s.heap.size ≤ q → A q := fun q h => by rw [← hAe]; exact Or.inr h
  have hS : va_S A s.heap s.heap [] := va_S.rf
  have hP : va_P (dC, dI) vwCl [(h0, .inr (3, [.null, .null, .null, .null]))] s.heap := hP
  have hl := lv_entry ([.ref h0]) (n := 1) (Nat.le_of_ble_eq_true rfl)
  rw [lg_entry_eq]
  generalize (lg_sl ([.ref h0]) ++ List.replicate (1 - (lg_sl ([.ref h0])).length) Slot.unset).toArray = ls at hl ⊢
  have hl : lv_has ls 1 [(0, .ref h0)] := hl
  refine lv_aload_n hx hb dX3_init_0 rfl (lv_at hl 0 rfl) ?_
  refine W.objInit hx hb hown (hts (.methodLink RX3 3 objectInit) (by decide +kernel)) (hts (.instanceMethod objectInit) (by decide +kernel)) (hts (.code objectInit ⟨#[0xb1]⟩ 1 none) (by decide +kernel)) rfl (by rw [hml]; exact hl.1) rfl dX3_init_1 (Nat.le_of_ble_eq_true rfl) (Nat.le_of_ble_eq_true rfl) ?_
  refine W.eq (g2 := F0 m 4 ls []) rfl ?_
  refine lv_aload_n hx hb dX3_init_4 rfl (lv_at hl 0 rfl) ?_
  refine lv_bipush (v := 10) hx hb dX3_init_5 (by decide) ?_
  refine bn_newI hx hb (hts (.arrayClass .int) (by decide +kernel)) hKK hP hD hS hA (by decide) (by decide) (by decide) (show 0 + 1 ≤ 6 by omega) (show 0 + 10 ≤ 163 by omega) dX3_init_7 (fun q_1 H hP hD hS => ?_)
  have hP : va_P (dC, dI) vwCl [(h0, .inr (3, [.null, .null, .null, .null])), (q_1, .inl (cI, 10, .inl (fun _ => 0)))] H := hP
  have hD : va_D A [(h0, .inr (3, [.null, .null, .null, .null])), (q_1, .inl (cI, 10, .inl (fun _ => 0)))] := hD
  refine va_putF (D := (dC, dI)) (ci := 3) (v := .ref q_1) (ty := .array .int) (C := RX3) (T := TX3) (N := 4) hx hb hts iX3_init_X3 tyX3 tyX3_ok nmX3 hown hKK.1 hP hD hS 0 rfl rfl 0 (by decide) (hts (.fieldLink RX3 9 "LendThreads$Shelf" "values" "[I") (by decide +kernel)) (fun _ h9 => h9) rfl hin rfl (by decide +kernel) rfl rfl (Nat.le_of_ble_eq_true rfl) dX3_init_9 (fun H locs hP hD hS => ?_)
  have hP : va_P (dC, dI) vwCl [(h0, .inr (3, [.ref q_1, .null, .null, .null])), (q_1, .inl (cI, 10, .inl (fun _ => 0)))] H := hP
  have hD : va_D A [(h0, .inr (3, [.ref q_1, .null, .null, .null])), (q_1, .inl (cI, 10, .inl (fun _ => 0)))] := hD
  refine lv_aload_n hx hb dX3_init_12 rfl (lv_at hl 0 rfl) ?_
  refine lv_bipush (v := 10) hx hb dX3_init_13 (by decide) ?_
  refine bn_newI hx hb (hts (.arrayClass .int) (by decide +kernel)) hKK hP hD hS hA (by decide) (by decide) (by decide) (show 0 + 1 + 1 ≤ 6 by omega) (show 0 + 10 + 10 ≤ 163 by omega) dX3_init_15 (fun q_2 H hP hD hS => ?_)
  have hP : va_P (dC, dI) vwCl [(h0, .inr (3, [.ref q_1, .null, .null, .null])), (q_1, .inl (cI, 10, .inl (fun _ => 0))), (q_2, .inl (cI, 10, .inl (fun _ => 0)))] H := hP
  have hD : va_D A [(h0, .inr (3, [.ref q_1, .null, .null, .null])), (q_1, .inl (cI, 10, .inl (fun _ => 0))), (q_2, .inl (cI, 10, .inl (fun _ => 0)))] := hD
  refine va_putF (D := (dC, dI)) (ci := 3) (v := .ref q_2) (ty := .array .int) (C := RX3) (T := TX3) (N := 4) hx hb hts iX3_init_X3 tyX3 tyX3_ok nmX3 hown hKK.1 hP hD hS 0 rfl rfl 1 (by decide) (hts (.fieldLink RX3 15 "LendThreads$Shelf" "valuesWhenTaken" "[I") (by decide +kernel)) (fun _ h9 => h9) rfl hin rfl (by decide +kernel) rfl rfl (Nat.le_of_ble_eq_true rfl) dX3_init_17 (fun H locs hP hD hS => ?_)
  have hP : va_P (dC, dI) vwCl [(h0, .inr (3, [.ref q_1, .ref q_2, .null, .null])), (q_1, .inl (cI, 10, .inl (fun _ => 0))), (q_2, .inl (cI, 10, .inl (fun _ => 0)))] H := hP
  have hD : va_D A [(h0, .inr (3, [.ref q_1, .ref q_2, .null, .null])), (q_1, .inl (cI, 10, .inl (fun _ => 0))), (q_2, .inl (cI, 10, .inl (fun _ => 0)))] := hD
  refine lv_aload_n hx hb dX3_init_20 rfl (lv_at hl 0 rfl) ?_
  refine lv_bipush (v := 10) hx hb dX3_init_21 (by decide) ?_
  refine bn_newI hx hb (hts (.arrayClass .int) (by decide +kernel)) hKK hP hD hS hA (by decide) (by decide) (by decide) (show 0 + 1 + 1 + 1 ≤ 6 by omega) (show 0 + 10 + 10 + 10 ≤ 163 by omega) dX3_init_23 (fun q_3 H hP hD hS => ?_)
  have hP : va_P (dC, dI) vwCl [(h0, .inr (3, [.ref q_1, .ref q_2, .null, .null])), (q_1, .inl (cI, 10, .inl (fun _ => 0))), (q_2, .inl (cI, 10, .inl (fun _ => 0))), (q_3, .inl (cI, 10, .inl (fun _ => 0)))] H := hP
  have hD : va_D A [(h0, .inr (3, [.ref q_1, .ref q_2, .null, .null])), (q_1, .inl (cI, 10, .inl (fun _ => 0))), (q_2, .inl (cI, 10, .inl (fun _ => 0))), (q_3, .inl (cI, 10, .inl (fun _ => 0)))] := hD
  refine va_putF (D := (dC, dI)) (ci := 3) (v := .ref q_3) (ty := .array .int) (C := RX3) (T := TX3) (N := 4) hx hb hts iX3_init_X3 tyX3 tyX3_ok nmX3 hown hKK.1 hP hD hS 0 rfl rfl 2 (by decide) (hts (.fieldLink RX3 18 "LendThreads$Shelf" "holders" "[I") (by decide +kernel)) (fun _ h9 => h9) rfl hin rfl (by decide +kernel) rfl rfl (Nat.le_of_ble_eq_true rfl) dX3_init_25 (fun H locs hP hD hS => ?_)
  have hP : va_P (dC, dI) vwCl [(h0, .inr (3, [.ref q_1, .ref q_2, .ref q_3, .null])), (q_1, .inl (cI, 10, .inl (fun _ => 0))), (q_2, .inl (cI, 10, .inl (fun _ => 0))), (q_3, .inl (cI, 10, .inl (fun _ => 0)))] H := hP
  have hD : va_D A [(h0, .inr (3, [.ref q_1, .ref q_2, .ref q_3, .null])), (q_1, .inl (cI, 10, .inl (fun _ => 0))), (q_2, .inl (cI, 10, .inl (fun _ => 0))), (q_3, .inl (cI, 10, .inl (fun _ => 0)))] := hD
  refine lv_aload_n hx hb dX3_init_28 rfl (lv_at hl 0 rfl) ?_
  refine va_new (ci := 2) (fs := [.int 0, .null, .null]) (C := RX2) (T := TX2) (N := 3) hx hb hts iX3_init_X2 tyX2 tyX2_ok hown (hts (.classLink RX3 21 RX2) (by decide +kernel)) (hts (.instantiable RX2 3) (by decide +kernel)) (hts (.initialized RX2) (by decide +kernel)) hKK.1 hP hD hS hA rfl (fun j hj => by rcases (show j = 0 ∨ j = 1 ∨ j = 2 by omega) with rfl | rfl | rfl <;> rfl) (show 0 + 1 + 1 + 1 + 1 ≤ 6 by omega) (show 0 + 10 + 10 + 10 + 3 ≤ 163 by omega) dX3_init_29 (fun q_4 H hP hD hS => ?_)
  have hP : va_P (dC, dI) vwCl [(h0, .inr (3, [.ref q_1, .ref q_2, .ref q_3, .null])), (q_1, .inl (cI, 10, .inl (fun _ => 0))), (q_2, .inl (cI, 10, .inl (fun _ => 0))), (q_3, .inl (cI, 10, .inl (fun _ => 0))), (q_4, .inr (2, [.int 0, .null, .null]))] H := hP
  have hD : va_D A [(h0, .inr (3, [.ref q_1, .ref q_2, .ref q_3, .null])), (q_1, .inl (cI, 10, .inl (fun _ => 0))), (q_2, .inl (cI, 10, .inl (fun _ => 0))), (q_3, .inl (cI, 10, .inl (fun _ => 0))), (q_4, .inr (2, [.int 0, .null, .null]))] := hD
  refine lv_dup hx hb dX3_init_32 rfl ?_
  refine lv_bipush (v := 10) hx hb dX3_init_33 (by decide) ?_
  refine lv_bipush (v := 12) hx hb dX3_init_35 (by decide) ?_
  have hPc := hP.sub (ws' := [(q_4, .inr (2, [.int 0, .null, .null]))]) [4] rfl
  have hDc := hD.sub (ws' := [(q_4, .inr (2, [.int 0, .null, .null]))]) [4] (by decide) rfl
  have hFc := va_free (wc := [(q_4, .inr (2, [.int 0, .null, .null]))]) hD hS hA [4] rfl
  refine va_callv (va_runI (As := [.int 10, .int 12]) (rest := [.ref q_4, .ref h0]) ⟨hx, hb, hml, hown, hts⟩ (c_Rows_init l dC dI cI H.size q_4 10 12 10 120 (by decide) (by decide) (by decide) (by decide) (by decide) (by decide)) (cwI 2 hts gX3_init_X2_init rfl rfl rfl (hts (.initialized RX2) (by decide +kernel)) (hts (.methodLink RX3 23 yX2_init) (by decide +kernel)) (hts (.instanceMethod yX2_init) (by decide +kernel)) rfl (by decide +kernel) ⟨Nat.le_of_ble_eq_true rfl, Nat.le_of_ble_eq_true rfl⟩) (uP_preS hKK hPc hDc) rfl rfl hl.1 rfl (lv_room (Nat.le_of_ble_eq_true rfl)) dX3_init_37 ⟨(show 0 + 1 + 1 + 1 + 1 + 2 ≤ 6 by omega), (show 0 + 10 + 10 + 10 + 3 + 130 ≤ 163 by omega)⟩) hS (fun q _ h => hFc q h) hFc (fun u t H1 locs ht hvm hw hB hz1 hk1 hS => ?_)
  obtain ⟨q_5, q_6⟩ := u
  obtain ⟨hP1, hD1⟩ := hB
  rw [ht] at hP1
  obtain ⟨hP, hD⟩ := va_join (wr := [(h0, .inr (3, [.ref q_1, .ref q_2, .ref q_3, .null])), (q_1, .inl (cI, 10, .inl (fun _ => 0))), (q_2, .inl (cI, 10, .inl (fun _ => 0))), (q_3, .inl (cI, 10, .inl (fun _ => 0)))]) (w1 := [(q_4, .inr (2, [.int 12, .ref q_5, .ref q_6])), (q_5, .inl (cI, 10, .inl (fun _ => 0))), (q_6, .inl (cI, 120, .inl (fun _ => 0)))]) hP hD [4] [0, 1, 2, 3] rfl rfl (by decide) (by decide) hk1 hFc hP1 hD1
  generalize H1 = H at hP hS ⊢
  have hP : va_P (dC, dI) vwCl [(h0, .inr (3, [.ref q_1, .ref q_2, .ref q_3, .null])), (q_1, .inl (cI, 10, .inl (fun _ => 0))), (q_2, .inl (cI, 10, .inl (fun _ => 0))), (q_3, .inl (cI, 10, .inl (fun _ => 0))), (q_4, .inr (2, [.int 12, .ref q_5, .ref q_6])), (q_5, .inl (cI, 10, .inl (fun _ => 0))), (q_6, .inl (cI, 120, .inl (fun _ => 0)))] H := hP
  have hD : va_D A [(h0, .inr (3, [.ref q_1, .ref q_2, .ref q_3, .null])), (q_1, .inl (cI, 10, .inl (fun _ => 0))), (q_2, .inl (cI, 10, .inl (fun _ => 0))), (q_3, .inl (cI, 10, .inl (fun _ => 0))), (q_4, .inr (2, [.int 12, .ref q_5, .ref q_6])), (q_5, .inl (cI, 10, .inl (fun _ => 0))), (q_6, .inl (cI, 120, .inl (fun _ => 0)))] := hD
  refine va_putF (D := (dC, dI)) (ci := 3) (v := .ref q_4) (ty := .object "LendThreads$Rows") (C := RX3) (T := TX3) (N := 4) hx hb hts iX3_init_X3 tyX3 tyX3_ok nmX3 hown hKK.1 hP hD hS 0 rfl rfl 3 (by decide) (hts (.fieldLink RX3 26 "LendThreads$Shelf" "lines" "LLendThreads$Rows;") (by decide +kernel)) (fun _ h9 => h9) rfl hin rfl (by decide +kernel) rfl rfl (Nat.le_of_ble_eq_true rfl) dX3_init_40 (fun H locs hP hD hS => ?_)
  have hP : va_P (dC, dI) vwCl [(h0, .inr (3, [.ref q_1, .ref q_2, .ref q_3, .ref q_4])), (q_1, .inl (cI, 10, .inl (fun _ => 0))), (q_2, .inl (cI, 10, .inl (fun _ => 0))), (q_3, .inl (cI, 10, .inl (fun _ => 0))), (q_4, .inr (2, [.int 12, .ref q_5, .ref q_6])), (q_5, .inl (cI, 10, .inl (fun _ => 0))), (q_6, .inl (cI, 120, .inl (fun _ => 0)))] H := hP
  have hD : va_D A [(h0, .inr (3, [.ref q_1, .ref q_2, .ref q_3, .ref q_4])), (q_1, .inl (cI, 10, .inl (fun _ => 0))), (q_2, .inl (cI, 10, .inl (fun _ => 0))), (q_3, .inl (cI, 10, .inl (fun _ => 0))), (q_4, .inr (2, [.int 12, .ref q_5, .ref q_6])), (q_5, .inl (cI, 10, .inl (fun _ => 0))), (q_6, .inl (cI, 120, .inl (fun _ => 0)))] := hD
  refine lv_aload_n hx hb dX3_init_43 rfl (lv_at hl 0 rfl) ?_
  refine va_get (D := (dC, dI)) (ci := 3) (v := .ref q_3) (C := RX3) (T := TX3) (N := 4) hx hb hts iX3_init_X3 hown hKK.1 hP 0 rfl rfl 2 (by decide) (hts (.fieldLink RX3 18 "LendThreads$Shelf" "holders" "[I") (by decide +kernel)) (fun _ h9 => h9) rfl dX3_init_44 ?_
  refine lv_iconst (v := (-1)) hx hb dX3_init_47 (by decide) ?_
  have hPc := hP.sub (ws' := [(q_3, .inl (cI, 10, .inl (fun _ => 0)))]) [3] rfl
  have hDc := hD.sub (ws' := [(q_3, .inl (cI, 10, .inl (fun _ => 0)))]) [3] (by decide) rfl
  have hFc := va_free (wc := [(q_3, .inl (cI, 10, .inl (fun _ => 0)))]) hD hS hA [3] rfl
  refine va_callv (va_runS (As := [.ref q_3, .int (-1)]) (rest := []) ⟨hx, hb, hml, hown, hts⟩ (c_fill10 l dC dI cI H.size q_3 (fun _ => 0) (-1)) (va_cwS 2 hts gX3_init_J7_fill_53178 rfl rfl rfl (by decide +kernel) ⟨Nat.le_of_ble_eq_true rfl, Nat.le_of_ble_eq_true rfl⟩) (uP_preS hKK hPc hDc) rfl rfl hl.1 rfl (lv_room (Nat.le_of_ble_eq_true rfl)) dX3_init_48 ⟨(show 0 + 1 + 1 + 1 + 1 + 2 + 0 ≤ 6 by omega), (show 0 + 10 + 10 + 10 + 3 + 130 + 0 ≤ 163 by omega)⟩) hS (fun q _ h => hFc q h) hFc (fun u t H1 locs ht hvm hw hB hz1 hk1 hS => ?_)
  obtain ⟨f_7, rfl⟩ : ∃ z, z = u := ⟨_, rfl⟩
  obtain ⟨hP1, hD1⟩ := hB
  rw [ht] at hP1
  obtain ⟨hP, hD⟩ := va_join (wr := [(h0, .inr (3, [.ref q_1, .ref q_2, .ref q_3, .ref q_4])), (q_1, .inl (cI, 10, .inl (fun _ => 0))), (q_2, .inl (cI, 10, .inl (fun _ => 0))), (q_4, .inr (2, [.int 12, .ref q_5, .ref q_6])), (q_5, .inl (cI, 10, .inl (fun _ => 0))), (q_6, .inl (cI, 120, .inl (fun _ => 0)))]) (w1 := [(q_3, .inl (cI, 10, .inl f_7))]) hP hD [3] [0, 1, 2, 4, 5, 6] rfl rfl (by decide) (by decide) hk1 hFc hP1 hD1
  generalize H1 = H at hP hS ⊢
  have hP : va_P (dC, dI) vwCl [(h0, .inr (3, [.ref q_1, .ref q_2, .ref q_3, .ref q_4])), (q_1, .inl (cI, 10, .inl (fun _ => 0))), (q_2, .inl (cI, 10, .inl (fun _ => 0))), (q_4, .inr (2, [.int 12, .ref q_5, .ref q_6])), (q_5, .inl (cI, 10, .inl (fun _ => 0))), (q_6, .inl (cI, 120, .inl (fun _ => 0))), (q_3, .inl (cI, 10, .inl f_7))] H := hP
  have hD : va_D A [(h0, .inr (3, [.ref q_1, .ref q_2, .ref q_3, .ref q_4])), (q_1, .inl (cI, 10, .inl (fun _ => 0))), (q_2, .inl (cI, 10, .inl (fun _ => 0))), (q_4, .inr (2, [.int 12, .ref q_5, .ref q_6])), (q_5, .inl (cI, 10, .inl (fun _ => 0))), (q_6, .inl (cI, 120, .inl (fun _ => 0))), (q_3, .inl (cI, 10, .inl f_7))] := hD
  refine W.widen (k := 6) (n := 163) (by omega) (by omega) ?_
  have hP9 := hP.sub (ws' := [(h0, .inr (3, [.ref q_1, .ref q_2, .ref q_3, .ref q_4])), (q_1, .inl (cI, 10, .inl (fun _ => 0))), (q_2, .inl (cI, 10, .inl (fun _ => 0))), (q_3, .inl (cI, 10, .inl f_7)), (q_4, .inr (2, [.int 12, .ref q_5, .ref q_6])), (q_5, .inl (cI, 10, .inl (fun _ => 0))), (q_6, .inl (cI, 120, .inl (fun _ => 0)))]) [0, 1, 2, 6, 3, 4, 5] rfl
  have hD9 := hD.sub (ws' := [(h0, .inr (3, [.ref q_1, .ref q_2, .ref q_3, .ref q_4])), (q_1, .inl (cI, 10, .inl (fun _ => 0))), (q_2, .inl (cI, 10, .inl (fun _ => 0))), (q_3, .inl (cI, 10, .inl f_7)), (q_4, .inr (2, [.int 12, .ref q_5, .ref q_6])), (q_5, .inl (cI, 10, .inl (fun _ => 0))), (q_6, .inl (cI, 120, .inl (fun _ => 0)))]) [0, 1, 2, 6, 3, 4, 5] (by decide) rfl
  exact W.vret hx hb hr (fun t ht hW => ⟨⟨(q_1, q_2, q_3, q_4, q_5, q_6, f_7), rfl, hw, by rw [ht]; exact hP9, hD9⟩, hS.F ht⟩) hS.2.2 dX3_init_51
