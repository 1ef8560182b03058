theorem iX5_line_X3 : ∀ w ∈ u_ws RX3 TX3 4, w ∈ wsX5_line := by decide +kernel
theorem iX5_line_X5 : ∀ w ∈ u_ws RX5 TX5 5, w ∈ wsX5_line := by decide +kernel
set_option maxHeartbeats 4000000 in
set_option maxRecDepth 100000 in
/-- line, none waits -/
theorem c_line0 (l : Launch) (dC : Nat → ClassId) (dI : Nat → Nat → Nat) (cI : ClassId) (x wa sh po di : Nat) (va vw ho li lc lt : Nat) (f : Nat → Int32) (hf : ∀ j, f j = 0) (v i : Int32) : Met l yX5_line wsX5_line ({ frames := 2, cells := 0, slots := 0, locals := 43 }) (rP dC dI cI [.ref x, .int v, .int i] [(x, .inr (5, [.ref wa, .int 0, .ref sh, .ref po, .ref di])), (sh, .inr (3, [.ref va, .ref vw, .ref ho, .ref li])), (li, .inr (2, [.int 12, .ref lc, .ref lt])), (lc, .inl (cI, 10, .inl f))]) (vp_Si (fun r => r = -1)) 0 0 (fun _ => False) := by
  refine Met.ofW (cc := cX5_line) (maxL := 3) (ret := (some .int)) (by decide) rfl ?_
  intro p e s m args below meth c s₁ B hml hv
  obtain ⟨rfl, hP, hKK⟩ := hv
  have hx := B.exec
  have hb := B.bytes
  have hr := B.returns
  have hts := atoms_spec (ws := wsX5_line) B.pre
  have hown : s.vm.findClass RX5 = some m.cls := findClass_of_methodNamed B.named
  have hlocks := B.notSynchronized
  have hP : va_P (dC, dI) vwCl [(x, .inr (5, [.ref wa, .int 0, .ref sh, .ref po, .ref di])), (sh, .inr (3, [.ref va, .ref vw, .ref ho, .ref li])), (li, .inr (2, [.int 12, .ref lc, .ref lt])), (lc, .inl (cI, 10, .inl f))] s.heap := hP
  have hl := lv_entry ([.ref x, .int v, .int i]) (n := 3) (Nat.le_of_ble_eq_true rfl)
  rw [lg_entry_eq]
  generalize (lg_sl ([.ref x, .int v, .int i]) ++ List.replicate (3 - (lg_sl ([.ref x, .int v, .int i])).length) Slot.unset).toArray = ls at hl ⊢
  have hl : lv_has ls 3 [(0, .ref x), (1, .int v), (2, .int i)] := hl
  refine lv_aload_n hx hb dX5_line_0 rfl (lv_at hl 0 rfl) ?_
  refine va_get (D := (dC, dI)) (ci := 5) (v := .ref sh) (C := RX5) (T := TX5) (N := 5) hx hb hts iX5_line_X5 hown hKK.1 hP 0 rfl rfl 2 (by decide) (hts (.fieldLink RX5 18 "LendThreads" "shelf" "LLendThreads$Shelf;") (by decide +kernel)) (fun _ h9 => h9) rfl dX5_line_1 ?_
  refine va_getN (D := (dC, dI)) (ci := 3) (v := .ref li) (C := RX3) (T := TX3) (N := 4) hx hb hts iX5_line_X3 hown hKK.1 hP 1 rfl rfl 3 (by decide) (va_Nw.use rfl (hKK.2.2 (.fieldLinkNest RX5 131 RX3 "lines" "LLendThreads$Rows;" RX5) (by decide +kernel))) (fun _ h9 => h9) rfl dX5_line_4 ?_
  refine lv_iload_n hx hb dX5_line_7 rfl (lv_at hl 1 rfl) ?_
  refine lv_iload_n hx hb dX5_line_8 rfl (lv_at hl 2 rfl) ?_
  refine vp_callSi (va_Run.run (va_runV (As := [.int v, .int i]) (rest := []) ⟨hx, hb, hml, hown, hts⟩ (c_Rows_item0 l dC dI cI li lc lt 12 10 f (by decide) hf v i) (cwV 2 hts gX5_line_X2_item rfl rfl rfl (by decide +kernel) ⟨Nat.le_of_ble_eq_true rfl, Nat.le_of_ble_eq_true rfl⟩) (rP_preV hKK (hP.sub (ws' := [(li, .inr (2, [.int 12, .ref lc, .ref lt])), (lc, .inl (cI, 10, .inl f))]) [2, 3] rfl) (va_recv hKK.1 hP (ci := 2) (q0 := 2) rfl rfl)) rfl rfl hl.1 rfl (lv_room (Nat.le_of_ble_eq_true rfl)) dX5_line_9 ⟨Nat.zero_le _, Nat.zero_le _⟩)) (fun r_1 hr_1 => ?_)
  exact W.iret (v := r_1) hx hb hr (fun t ht hW => ⟨r_1, rfl, hr_1, ht⟩) (fun _ h => by cases h) dX5_line_12
theorem iX5_log_X0 : ∀ w ∈ u_ws RX0 TX0 1, w ∈ wsX5_log := by decide +kernel
theorem iX5_log_X5 : ∀ w ∈ u_ws RX5 TX5 5, w ∈ wsX5_log := by decide +kernel
set_option maxHeartbeats 4000000 in
set_option maxRecDepth 100000 in
/-- log, none written -/
theorem c_log0 (l : Launch) (dC : Nat → ClassId) (dI : Nat → Nat → Nat) (cI : ClassId) (x wa sh po di : Nat) (dl dc dt : Nat) (f : Nat → Int32) (hf : ∀ j, f j = 0) (i : Int32) : Met l yX5_log wsX5_log ({ frames := 2, cells := 0, slots := 0, locals := 43 }) (rP dC dI cI [.ref x, .int i] [(x, .inr (5, [.ref wa, .int 0, .ref sh, .ref po, .ref di])), (di, .inr (0, [.ref dl])), (dl, .inr (2, [.int 300, .ref dc, .ref dt])), (dc, .inl (cI, 1, .inl f))]) (vp_Si (fun r => r = -1)) 0 0 (fun _ => False) := by
  refine Met.ofW (cc := cX5_log) (maxL := 2) (ret := (some .int)) (by decide) rfl ?_
  intro p e s m args below meth c s₁ B hml hv
  obtain ⟨rfl, hP, hKK⟩ := hv
  have hx := B.exec
  have hb := B.bytes
  have hr := B.returns
  have hts := atoms_spec (ws := wsX5_log) B.pre
  have hown : s.vm.findClass RX5 = some m.cls := findClass_of_methodNamed B.named
  have hlocks := B.notSynchronized
  have hP : va_P (dC, dI) vwCl [(x, .inr (5, [.ref wa, .int 0, .ref sh, .ref po, .ref di])), (di, .inr (0, [.ref dl])), (dl, .inr (2, [.int 300, .ref dc, .ref dt])), (dc, .inl (cI, 1, .inl f))] s.heap := hP
  have hl := lv_entry ([.ref x, .int i]) (n := 2) (Nat.le_of_ble_eq_true rfl)
  rw [lg_entry_eq]
  generalize (lg_sl ([.ref x, .int i]) ++ List.replicate (2 - (lg_sl ([.ref x, .int i])).length) Slot.unset).toArray = ls at hl ⊢
  have hl : lv_has ls 2 [(0, .ref x), (1, .int i)] := hl
  refine lv_aload_n hx hb dX5_log_0 rfl (lv_at hl 0 rfl) ?_
  refine va_get (D := (dC, dI)) (ci := 5) (v := .ref di) (C := RX5) (T := TX5) (N := 5) hx hb hts iX5_log_X5 hown hKK.1 hP 0 rfl rfl 4 (by decide) (hts (.fieldLink RX5 32 "LendThreads" "diary" "LLendThreads$Diary;") (by decide +kernel)) (fun _ h9 => h9) rfl dX5_log_1 ?_
  refine va_getN (D := (dC, dI)) (ci := 0) (v := .ref dl) (C := RX0) (T := TX0) (N := 1) hx hb hts iX5_log_X0 hown hKK.1 hP 1 rfl rfl 0 (by decide) (va_Nw.use rfl (hKK.2.2 (.fieldLinkNest RX5 147 RX0 "lines" "LLendThreads$Rows;" RX5) (by decide +kernel))) (fun _ h9 => h9) rfl dX5_log_4 ?_
  refine lv_iconst (v := 0) hx hb dX5_log_7 (by decide) ?_
  refine lv_iload_n hx hb dX5_log_8 rfl (lv_at hl 1 rfl) ?_
  refine vp_callSi (va_Run.run (va_runV (As := [.int 0, .int i]) (rest := []) ⟨hx, hb, hml, hown, hts⟩ (c_Rows_item0 l dC dI cI dl dc dt 300 1 f (by decide) hf 0 i) (cwV 2 hts gX5_log_X2_item rfl rfl rfl (by decide +kernel) ⟨Nat.le_of_ble_eq_true rfl, Nat.le_of_ble_eq_true rfl⟩) (rP_preV hKK (hP.sub (ws' := [(dl, .inr (2, [.int 300, .ref dc, .ref dt])), (dc, .inl (cI, 1, .inl f))]) [2, 3] rfl) (va_recv hKK.1 hP (ci := 2) (q0 := 2) rfl rfl)) rfl rfl hl.1 rfl (lv_room (Nat.le_of_ble_eq_true rfl)) dX5_log_9 ⟨Nat.zero_le _, Nat.zero_le _⟩)) (fun r_1 hr_1 => ?_)
  exact W.iret (v := r_1) hx hb hr (fun t ht hW => ⟨r_1, rfl, hr_1, ht⟩) (fun _ h => by cases h) dX5_log_12
