theorem bn_sub1 {a b : Int32} (h1 : ¬ a < 1) (h2 : ¬ 10 < a) : a - 1 < b ↔ a ≤ b := by
  rw [Int32.lt_iff_toInt_lt] at h1 h2
  have e1 : (1 : Int32).toInt = 1 := by decide
  have e10 : (10 : Int32).toInt = 10 := by decide
  have e2 : (a - 1).toInt = a.toInt - 1 := by
    rw [Int32.toInt_sub, e1]
    apply Int.bmod_eq_of_le <;> omega
  rw [Int32.lt_iff_toInt_lt, Int32.le_iff_toInt_le, e2]
  omega
theorem bn_in9 {x : Int32} (h1 : ¬ x < 0) (h2 : ¬ 9 < x) : vp_in x 10 := by
  rw [vp_in_iff]
  rw [Int32.lt_iff_toInt_lt] at h1 h2
  have e0 : (0 : Int32).toInt = 0 := by decide
  have e9 : (9 : Int32).toInt = 9 := by decide
  omega
theorem iX6_thrown_X6 : ∀ w ∈ u_ws RX6 TX6 29, w ∈ wsX6_thrown := by decide +kernel
set_option maxHeartbeats 4000000 in
set_option maxRecDepth 100000 in
/-- thrown -/
theorem c_mthrown (l : Launch) (dC : Nat → ClassId) (dI : Nat → Nat → Nat) (cI : ClassId) (y r_steps r_failsAt r_state r_step r_got r_latest r_begun r_asked r_again r_waitsFor r_since r_wantCount r_want r_sendCount r_send r_owner r_value r_there r_lost r_changedBy r_changed r_before r_log : Nat) (m_thrown m_works m_clock m_losing m_changes m_logged : Int32) : Met l yX6_thrown wsX6_thrown ({ frames := 0, cells := 0, slots := 0, locals := 0 }) (rP dC dI cI [.ref y] [(y, .inr (6, [.int m_thrown, .int m_works, .ref r_steps, .ref r_failsAt, .ref r_state, .ref r_step, .ref r_got, .ref r_latest, .ref r_begun, .ref r_asked, .ref r_again, .ref r_waitsFor, .ref r_since, .int m_clock, .ref r_wantCount, .ref r_want, .ref r_sendCount, .ref r_send, .ref r_owner, .ref r_value, .ref r_there, .ref r_lost, .int m_losing, .int m_changes, .ref r_changedBy, .ref r_changed, .ref r_before, .int m_logged, .ref r_log]))]) (vp_Si (fun r => r = m_thrown)) 0 0 (fun _ => False) := by
  refine Met.ofW (cc := cX6_thrown) (maxL := 1) (ret := (some .int)) (by decide) rfl ?_
  intro p e s m args below meth c s₁ B hml hv
  obtain ⟨rfl, hP, hKK⟩ := hv
  have hx := B.exec
  have hb := B.bytes
  have hr := B.returns
  have hts := atoms_spec (ws := wsX6_thrown) B.pre
  have hown : s.vm.findClass RX6 = some m.cls := findClass_of_methodNamed B.named
  have hlocks := B.notSynchronized
  have hP : va_P (dC, dI) vwCl [(y, .inr (6, [.int m_thrown, .int m_works, .ref r_steps, .ref r_failsAt, .ref r_state, .ref r_step, .ref r_got, .ref r_latest, .ref r_begun, .ref r_asked, .ref r_again, .ref r_waitsFor, .ref r_since, .int m_clock, .ref r_wantCount, .ref r_want, .ref r_sendCount, .ref r_send, .ref r_owner, .ref r_value, .ref r_there, .ref r_lost, .int m_losing, .int m_changes, .ref r_changedBy, .ref r_changed, .ref r_before, .int m_logged, .ref r_log]))] s.heap := hP
  have hl := lv_entry ([.ref y]) (n := 1) (Nat.le_of_ble_eq_true rfl)
  rw [lg_entry_eq]
  generalize (lg_sl ([.ref y]) ++ List.replicate (1 - (lg_sl ([.ref y])).length) Slot.unset).toArray = ls at hl ⊢
  have hl : lv_has ls 1 [(0, .ref y)] := hl
  refine lv_aload_n hx hb dX6_thrown_0 rfl (lv_at hl 0 rfl) ?_
  refine va_get (D := (dC, dI)) (ci := 6) (v := .int m_thrown) (C := RX6) (T := TX6) (N := 29) hx hb hts iX6_thrown_X6 hown hKK.1 hP 0 rfl rfl 0 (by decide) (hts (.fieldLink RX6 80 "LendThreadsModel" "thrown" "I") (by decide +kernel)) (fun _ h9 => h9) rfl dX6_thrown_1 ?_
  exact W.iret (v := m_thrown) hx hb hr (fun t ht hW => ⟨m_thrown, rfl, rfl, ht⟩) (fun _ h => by cases h) dX6_thrown_4
theorem iX6_isWork_X6 : ∀ w ∈ u_ws RX6 TX6 29, w ∈ wsX6_isWork := by decide +kernel
set_option maxHeartbeats 4000000 in
set_option maxRecDepth 100000 in
/-- isWork, no works -/
theorem c_misWork0 (l : Launch) (dC : Nat → ClassId) (dI : Nat → Nat → Nat) (cI : ClassId) (y r_steps r_failsAt r_state r_step r_got r_latest r_begun r_asked r_again r_waitsFor r_since r_wantCount r_want r_sendCount r_send r_owner r_value r_there r_lost r_changedBy r_changed r_before r_log : Nat) (m_thrown m_clock m_losing m_changes m_logged : Int32) (w : Int32) : Met l yX6_isWork wsX6_isWork ({ frames := 1, cells := 0, slots := 0, locals := 22 }) (rP dC dI cI [.ref y, .int w] [(y, .inr (6, [.int m_thrown, .int 0, .ref r_steps, .ref r_failsAt, .ref r_state, .ref r_step, .ref r_got, .ref r_latest, .ref r_begun, .ref r_asked, .ref r_again, .ref r_waitsFor, .ref r_since, .int m_clock, .ref r_wantCount, .ref r_want, .ref r_sendCount, .ref r_send, .ref r_owner, .ref r_value, .ref r_there, .ref r_lost, .int m_losing, .int m_changes, .ref r_changedBy, .ref r_changed, .ref r_before, .int m_logged, .ref r_log]))]) (vp_Si (fun r => r = 0)) 0 0 (fun _ => False) := by
  refine Met.ofW (cc := cX6_isWork) (maxL := 2) (ret := (some .boolean)) (by decide) rfl ?_
  intro p e s m args below meth c s₁ B hml hv
  obtain ⟨rfl, hP, hKK⟩ := hv
  have hx := B.exec
  have hb := B.bytes
  have hr := B.returns
  have hts := atoms_spec (ws := wsX6_isWork) B.pre
  have hown : s.vm.findClass RX6 = some m.cls := findClass_of_methodNamed B.named
  have hlocks := B.notSynchronized
  have hP : va_P (dC, dI) vwCl [(y, .inr (6, [.int m_thrown, .int 0, .ref r_steps, .ref r_failsAt, .ref r_state, .ref r_step, .ref r_got, .ref r_latest, .ref r_begun, .ref r_asked, .ref r_again, .ref r_waitsFor, .ref r_since, .int m_clock, .ref r_wantCount, .ref r_want, .ref r_sendCount, .ref r_send, .ref r_owner, .ref r_value, .ref r_there, .ref r_lost, .int m_losing, .int m_changes, .ref r_changedBy, .ref r_changed, .ref r_before, .int m_logged, .ref r_log]))] s.heap := hP
  have hl := lv_entry ([.ref y, .int w]) (n := 2) (Nat.le_of_ble_eq_true rfl)
  rw [lg_entry_eq]
  generalize (lg_sl ([.ref y, .int w]) ++ List.replicate (2 - (lg_sl ([.ref y, .int w])).length) Slot.unset).toArray = ls at hl ⊢
  have hl : lv_has ls 2 [(0, .ref y), (1, .int w)] := hl
  refine lv_iload_n hx hb dX6_isWork_0 rfl (lv_at hl 1 rfl) ?_
  refine lv_iconst (v := 0) hx hb dX6_isWork_1 (by decide) ?_
  refine lv_aload_n hx hb dX6_isWork_2 rfl (lv_at hl 0 rfl) ?_
  refine va_get (D := (dC, dI)) (ci := 6) (v := .int 0) (C := RX6) (T := TX6) (N := 29) hx hb hts iX6_isWork_X6 hown hKK.1 hP 0 rfl rfl 1 (by decide) (hts (.fieldLink RX6 84 "LendThreadsModel" "works" "I") (by decide +kernel)) (fun _ h9 => h9) rfl dX6_isWork_3 ?_
  refine lv_iconst (v := 1) hx hb dX6_isWork_6 (by decide) ?_
  refine lv_isub hx hb dX6_isWork_7 ?_
  refine lv_topi (fun x_1 ex_1 => ?_)
  obtain rfl : x_1 = (-1) := by rw [ex_1]; decide
  refine vp_callSi (va_Run.run (va_runS (As := [.int w, .int 0, .int (-1)]) (rest := []) ⟨hx, hb, hml, hown, hts⟩ (c_in l dC dI cI w 0 (-1)) (va_cwS 3 hts gX6_isWork_X6_in rfl rfl rfl (by decide +kernel) ⟨Nat.le_of_ble_eq_true rfl, Nat.le_of_ble_eq_true rfl⟩) (rP_preS hKK (hP.sub (ws' := []) [] rfl)) rfl rfl hl.1 rfl (lv_room (Nat.le_of_ble_eq_true rfl)) dX6_isWork_8 ⟨Nat.zero_le _, Nat.zero_le _⟩)) (fun r_2 hr_2 => ?_)
  obtain rfl : r_2 = 0 := by rcases hr_2 with ⟨_, a, b⟩ | ⟨e, _⟩; exact (bn_neg1 a b).elim; exact e
  exact W.zret (v := 0) (ty := .boolean) hx hb hr (by rfl) (fun t ht hW => ⟨0, rfl, rfl, ht⟩) (fun _ h => by cases h) dX6_isWork_11
set_option maxHeartbeats 4000000 in
set_option maxRecDepth 100000 in
/-- isStep, no works -/
theorem c_misStep0 (l : Launch) (dC : Nat → ClassId) (dI : Nat → Nat → Nat) (cI : ClassId) (y r_steps r_failsAt r_state r_step r_got r_latest r_begun r_asked r_again r_waitsFor r_since r_wantCount r_want r_sendCount r_send r_owner r_value r_there r_lost r_changedBy r_changed r_before r_log : Nat) (m_thrown m_clock m_losing m_changes m_logged : Int32) (w s9 : Int32) : Met l yX6_isStep wsX6_isStep ({ frames := 2, cells := 0, slots := 0, locals := 43 }) (rP dC dI cI [.ref y, .int w, .int s9] [(y, .inr (6, [.int m_thrown, .int 0, .ref r_steps, .ref r_failsAt, .ref r_state, .ref r_step, .ref r_got, .ref r_latest, .ref r_begun, .ref r_asked, .ref r_again, .ref r_waitsFor, .ref r_since, .int m_clock, .ref r_wantCount, .ref r_want, .ref r_sendCount, .ref r_send, .ref r_owner, .ref r_value, .ref r_there, .ref r_lost, .int m_losing, .int m_changes, .ref r_changedBy, .ref r_changed, .ref r_before, .int m_logged, .ref r_log]))]) (vp_Si (fun r => r = 0)) 0 0 (fun _ => False) := by
  refine Met.ofW (cc := cX6_isStep) (maxL := 3) (ret := (some .boolean)) (by decide) rfl ?_
  intro p e s m args below meth c s₁ B hml hv
  obtain ⟨rfl, hP, hKK⟩ := hv
  have hx := B.exec
  have hb := B.bytes
  have hr := B.returns
  have hts := atoms_spec (ws := wsX6_isStep) B.pre
  have hown : s.vm.findClass RX6 = some m.cls := findClass_of_methodNamed B.named
  have hlocks := B.notSynchronized
  have hP : va_P (dC, dI) vwCl [(y, .inr (6, [.int m_thrown, .int 0, .ref r_steps, .ref r_failsAt, .ref r_state, .ref r_step, .ref r_got, .ref r_latest, .ref r_begun, .ref r_asked, .ref r_again, .ref r_waitsFor, .ref r_since, .int m_clock, .ref r_wantCount, .ref r_want, .ref r_sendCount, .ref r_send, .ref r_owner, .ref r_value, .ref r_there, .ref r_lost, .int m_losing, .int m_changes, .ref r_changedBy, .ref r_changed, .ref r_before, .int m_logged, .ref r_log]))] s.heap := hP
  have hl := lv_entry ([.ref y, .int w, .int s9]) (n := 3) (Nat.le_of_ble_eq_true rfl)
  rw [lg_entry_eq]
  generalize (lg_sl ([.ref y, .int w, .int s9]) ++ List.replicate (3 - (lg_sl ([.ref y, .int w, .int s9])).length) Slot.unset).toArray = ls at hl ⊢
  have hl : lv_has ls 3 [(0, .ref y), (1, .int w), (2, .int s9)] := hl
  refine lv_aload_n hx hb dX6_isStep_0 rfl (lv_at hl 0 rfl) ?_
  refine lv_iload_n hx hb dX6_isStep_1 rfl (lv_at hl 1 rfl) ?_
  refine vp_callSi (va_Run.run (va_runV (As := [.int w]) (rest := []) ⟨hx, hb, hml, hown, hts⟩ (c_misWork0 l dC dI cI y r_steps r_failsAt r_state r_step r_got r_latest r_begun r_asked r_again r_waitsFor r_since r_wantCount r_want r_sendCount r_send r_owner r_value r_there r_lost r_changedBy r_changed r_before r_log m_thrown m_clock m_losing m_changes m_logged w) (cwV 1 hts gX6_isStep_X6_isWork rfl rfl rfl (by decide +kernel) ⟨Nat.le_of_ble_eq_true rfl, Nat.le_of_ble_eq_true rfl⟩) (rP_preV hKK (hP.sub (ws' := [(y, .inr (6, [.int m_thrown, .int 0, .ref r_steps, .ref r_failsAt, .ref r_state, .ref r_step, .ref r_got, .ref r_latest, .ref r_begun, .ref r_asked, .ref r_again, .ref r_waitsFor, .ref r_since, .int m_clock, .ref r_wantCount, .ref r_want, .ref r_sendCount, .ref r_send, .ref r_owner, .ref r_value, .ref r_there, .ref r_lost, .int m_losing, .int m_changes, .ref r_changedBy, .ref r_changed, .ref r_before, .int m_logged, .ref r_log]))]) [0] rfl) (va_recv hKK.1 hP (ci := 6) (q0 := 0) rfl rfl)) rfl rfl hl.1 rfl (lv_room (Nat.le_of_ble_eq_true rfl)) dX6_isStep_2 ⟨Nat.zero_le _, Nat.zero_le _⟩)) (fun r_1 hr_1 => ?_)
  obtain rfl : r_1 = 0 := hr_1
  refine lv_if_eq (tgt := 28) hx hb dX6_isStep_5 (by decide) (fun c_2 => ?_) (fun c_2 => ?_)
  · refine lv_iconst (v := 0) hx hb dX6_isStep_28 (by decide) ?_
    exact W.zret (v := 0) (ty := .boolean) hx hb hr (by rfl) (fun t ht hW => ⟨0, rfl, rfl, ht⟩) (fun _ h => by cases h) dX6_isStep_29
  · exact absurd c_2 (by decide)
set_option maxHeartbeats 4000000 in
set_option maxRecDepth 100000 in
/-- does, no works -/
theorem c_mdoes0 (l : Launch) (dC : Nat → ClassId) (dI : Nat → Nat → Nat) (cI : ClassId) (y r_steps r_failsAt r_state r_step r_got r_latest r_begun r_asked r_again r_waitsFor r_since r_wantCount r_want r_sendCount r_send r_owner r_value r_there r_lost r_changedBy r_changed r_before r_log : Nat) (m_thrown m_clock m_losing m_changes m_logged : Int32) (w : Int32) : Met l yX6_does wsX6_does ({ frames := 2, cells := 0, slots := 0, locals := 43 }) (rP dC dI cI [.ref y, .int w] [(y, .inr (6, [.int m_thrown, .int 0, .ref r_steps, .ref r_failsAt, .ref r_state, .ref r_step, .ref r_got, .ref r_latest, .ref r_begun, .ref r_asked, .ref r_again, .ref r_waitsFor, .ref r_since, .int m_clock, .ref r_wantCount, .ref r_want, .ref r_sendCount, .ref r_send, .ref r_owner, .ref r_value, .ref r_there, .ref r_lost, .int m_losing, .int m_changes, .ref r_changedBy, .ref r_changed, .ref r_before, .int m_logged, .ref r_log]))]) (vp_Si (fun r => r = 0)) 0 0 (fun _ => False) := by
  refine Met.ofW (cc := cX6_does) (maxL := 4) (ret := (some .int)) (by decide) rfl ?_
  intro p e s m args below meth c s₁ B hml hv
  obtain ⟨rfl, hP, hKK⟩ := hv
  have hx := B.exec
  have hb := B.bytes
  have hr := B.returns
  have hts := atoms_spec (ws := wsX6_does) B.pre
  have hown : s.vm.findClass RX6 = some m.cls := findClass_of_methodNamed B.named
  have hlocks := B.notSynchronized
  have hP : va_P (dC, dI) vwCl [(y, .inr (6, [.int m_thrown, .int 0, .ref r_steps, .ref r_failsAt, .ref r_state, .ref r_step, .ref r_got, .ref r_latest, .ref r_begun, .ref r_asked, .ref r_again, .ref r_waitsFor, .ref r_since, .int m_clock, .ref r_wantCount, .ref r_want, .ref r_sendCount, .ref r_send, .ref r_owner, .ref r_value, .ref r_there, .ref r_lost, .int m_losing, .int m_changes, .ref r_changedBy, .ref r_changed, .ref r_before, .int m_logged, .ref r_log]))] s.heap := hP
  have hl := lv_entry ([.ref y, .int w]) (n := 4) (Nat.le_of_ble_eq_true rfl)
  rw [lg_entry_eq]
  generalize (lg_sl ([.ref y, .int w]) ++ List.replicate (4 - (lg_sl ([.ref y, .int w])).length) Slot.unset).toArray = ls at hl ⊢
  have hl : lv_has ls 4 [(0, .ref y), (1, .int w)] := hl
  refine lv_aload_n hx hb dX6_does_0 rfl (lv_at hl 0 rfl) ?_
  refine lv_iload_n hx hb dX6_does_1 rfl (lv_at hl 1 rfl) ?_
  refine vp_callSi (va_Run.run (va_runV (As := [.int w]) (rest := []) ⟨hx, hb, hml, hown, hts⟩ (c_misWork0 l dC dI cI y r_steps r_failsAt r_state r_step r_got r_latest r_begun r_asked r_again r_waitsFor r_since r_wantCount r_want r_sendCount r_send r_owner r_value r_there r_lost r_changedBy r_changed r_before r_log m_thrown m_clock m_losing m_changes m_logged w) (cwV 1 hts gX6_does_X6_isWork rfl rfl rfl (by decide +kernel) ⟨Nat.le_of_ble_eq_true rfl, Nat.le_of_ble_eq_true rfl⟩) (rP_preV hKK (hP.sub (ws' := [(y, .inr (6, [.int m_thrown, .int 0, .ref r_steps, .ref r_failsAt, .ref r_state, .ref r_step, .ref r_got, .ref r_latest, .ref r_begun, .ref r_asked, .ref r_again, .ref r_waitsFor, .ref r_since, .int m_clock, .ref r_wantCount, .ref r_want, .ref r_sendCount, .ref r_send, .ref r_owner, .ref r_value, .ref r_there, .ref r_lost, .int m_losing, .int m_changes, .ref r_changedBy, .ref r_changed, .ref r_before, .int m_logged, .ref r_log]))]) [0] rfl) (va_recv hKK.1 hP (ci := 6) (q0 := 0) rfl rfl)) rfl rfl hl.1 rfl (lv_room (Nat.le_of_ble_eq_true rfl)) dX6_does_2 ⟨Nat.zero_le _, Nat.zero_le _⟩)) (fun r_1 hr_1 => ?_)
  obtain rfl : r_1 = 0 := hr_1
  refine lv_if_eq (tgt := 17) hx hb dX6_does_5 (by decide) (fun c_2 => ?_) (fun c_2 => ?_)
  · refine lv_iconst (v := 0) hx hb dX6_does_17 (by decide) ?_
    exact W.iret (v := 0) hx hb hr (fun t ht hW => ⟨0, rfl, rfl, ht⟩) (fun _ h => by cases h) dX6_does_18
  · exact absurd c_2 (by decide)
theorem iX6_wants_X6 : ∀ w ∈ u_ws RX6 TX6 29, w ∈ wsX6_wants := by decide +kernel
set_option maxHeartbeats 4000000 in
set_option maxRecDepth 100000 in
/-- wants, no works -/
theorem c_mwants0 (l : Launch) (dC : Nat → ClassId) (dI : Nat → Nat → Nat) (cI : ClassId) (sz : Nat) (y r_steps r_failsAt r_state r_step r_got r_latest r_begun r_asked r_again r_waitsFor r_since r_wantCount r_want r_sendCount r_send r_owner r_value r_there r_lost r_changedBy r_changed r_before r_log : Nat) (m_thrown m_clock m_losing m_changes m_logged : Int32) (w b z d : Int32) : Met l yX6_wants wsX6_wants ({ frames := 3, cells := 0, slots := 0, locals := 70 }) (uP dC dI cI [.ref y, .int w, .int b, .int z, .int d] [(y, .inr (6, [.int m_thrown, .int 0, .ref r_steps, .ref r_failsAt, .ref r_state, .ref r_step, .ref r_got, .ref r_latest, .ref r_begun, .ref r_asked, .ref r_again, .ref r_waitsFor, .ref r_since, .int m_clock, .ref r_wantCount, .ref r_want, .ref r_sendCount, .ref r_send, .ref r_owner, .ref r_value, .ref r_there, .ref r_lost, .int m_losing, .int m_changes, .ref r_changedBy, .ref r_changed, .ref r_before, .int m_logged, .ref r_log]))] sz) (va_Qi (fun r _ => r = -1) (fun (u : Unit) t => uB dC dI (va_A [(y, .inr (6, [.int m_thrown, .int 0, .ref r_steps, .ref r_failsAt, .ref r_state, .ref r_step, .ref r_got, .ref r_latest, .ref r_begun, .ref r_asked, .ref r_again, .ref r_waitsFor, .ref r_since, .int m_clock, .ref r_wantCount, .ref r_want, .ref r_sendCount, .ref r_send, .ref r_owner, .ref r_value, .ref r_there, .ref r_lost, .int m_losing, .int m_changes, .ref r_changedBy, .ref r_changed, .ref r_before, .int m_logged, .ref r_log]))] sz) [] t) (va_A [(y, .inr (6, [.int m_thrown, .int 0, .ref r_steps, .ref r_failsAt, .ref r_state, .ref r_step, .ref r_got, .ref r_latest, .ref r_begun, .ref r_asked, .ref r_again, .ref r_waitsFor, .ref r_since, .int m_clock, .ref r_wantCount, .ref r_want, .ref r_sendCount, .ref r_send, .ref r_owner, .ref r_value, .ref r_there, .ref r_lost, .int m_losing, .int m_changes, .ref r_changedBy, .ref r_changed, .ref r_before, .int m_logged, .ref r_log]))] sz)) 0 0 (va_A [(y, .inr (6, [.int m_thrown, .int 0, .ref r_steps, .ref r_failsAt, .ref r_state, .ref r_step, .ref r_got, .ref r_latest, .ref r_begun, .ref r_asked, .ref r_again, .ref r_waitsFor, .ref r_since, .int m_clock, .ref r_wantCount, .ref r_want, .ref r_sendCount, .ref r_send, .ref r_owner, .ref r_value, .ref r_there, .ref r_lost, .int m_losing, .int m_changes, .ref r_changedBy, .ref r_changed, .ref r_before, .int m_logged, .ref r_log]))] sz) := by
  refine Met.ofW (cc := cX6_wants) (maxL := 6) (ret := (some .int)) (by decide) rfl ?_
  intro p e s m args below meth c s₁ B hml hv
  obtain ⟨rfl, hsz, hP, hKK, hD0⟩ := hv
  have hx := B.exec
  have hb := B.bytes
  have hr := B.returns
  have hts := atoms_spec (ws := wsX6_wants) B.pre
  have hown : s.vm.findClass RX6 = some m.cls := findClass_of_methodNamed B.named
  have hlocks := B.notSynchronized
  subst hsz
  have hD := hD0.self (sz := s.heap.size)
  generalize hAe : va_A [(y, .inr (6, [.int m_thrown, .int 0, .ref r_steps, .ref r_failsAt, .ref r_state, .ref r_step, .ref r_got, .ref r_latest, .ref r_begun, .ref r_asked, .ref r_again, .ref r_waitsFor, .ref r_since, .int m_clock, .ref r_wantCount, .ref r_want, .ref r_sendCount, .ref r_send, .ref r_owner, .ref r_value, .ref r_there, .ref r_lost, .int m_losing, .int m_changes, .ref r_changedBy, .ref r_changed, .ref r_before, .int m_logged, .ref r_log]))] s.heap.size = A at hD ⊢
  have hA : ∀ q : Nat, s.heap.size ≤ q → A q := fun q h => by rw [← hAe]; exact Or.inr h
  have hS : va_S A s.heap s.heap [] := va_S.rf
  have hP : va_P (dC, dI) vwCl [(y, .inr (6, [.int m_thrown, .int 0, .ref r_steps, .ref r_failsAt, .ref r_state, .ref r_step, .ref r_got, .ref r_latest, .ref r_begun, .ref r_asked, .ref r_again, .ref r_waitsFor, .ref r_since, .int m_clock, .ref r_wantCount, .ref r_want, .ref r_sendCount, .ref r_send, .ref r_owner, .ref r_value, .ref r_there, .ref r_lost, .int m_losing, .int m_changes, .ref r_changedBy, .ref r_changed, .ref r_before, .int m_logged, .ref r_log]))] s.heap := hP
  have hl := lv_entry ([.ref y, .int w, .int b, .int z, .int d]) (n := 6) (Nat.le_of_ble_eq_true rfl)
  rw [lg_entry_eq]
  generalize (lg_sl ([.ref y, .int w, .int b, .int z, .int d]) ++ List.replicate (6 - (lg_sl ([.ref y, .int w, .int b, .int z, .int d])).length) Slot.unset).toArray = ls at hl ⊢
  have hl : lv_has ls 6 [(0, .ref y), (1, .int w), (2, .int b), (3, .int z), (4, .int d)] := hl
  refine lv_aload_n hx hb dX6_wants_0 rfl (lv_at hl 0 rfl) ?_
  refine lv_iconst (v := 0) hx hb dX6_wants_1 (by decide) ?_
  refine va_put (D := (dC, dI)) (ci := 6) (v := .int 0) (ty := .int) (C := RX6) (T := TX6) (N := 29) hx hb hts iX6_wants_X6 tyX6 tyX6_ok nmX6 hown hKK.1 hP hD hS 0 rfl rfl 0 (by decide) (hts (.fieldLink RX6 80 "LendThreadsModel" "thrown" "I") (by decide +kernel)) (fun _ h9 => h9) rfl (by decide +kernel) rfl rfl (Nat.le_of_ble_eq_true rfl) dX6_wants_2 (fun H locs hP hD hS => ?_)
  have hP : va_P (dC, dI) vwCl [(y, .inr (6, [.int 0, .int 0, .ref r_steps, .ref r_failsAt, .ref r_state, .ref r_step, .ref r_got, .ref r_latest, .ref r_begun, .ref r_asked, .ref r_again, .ref r_waitsFor, .ref r_since, .int m_clock, .ref r_wantCount, .ref r_want, .ref r_sendCount, .ref r_send, .ref r_owner, .ref r_value, .ref r_there, .ref r_lost, .int m_losing, .int m_changes, .ref r_changedBy, .ref r_changed, .ref r_before, .int m_logged, .ref r_log]))] H := hP
  have hD : va_D A [(y, .inr (6, [.int 0, .int 0, .ref r_steps, .ref r_failsAt, .ref r_state, .ref r_step, .ref r_got, .ref r_latest, .ref r_begun, .ref r_asked, .ref r_again, .ref r_waitsFor, .ref r_since, .int m_clock, .ref r_wantCount, .ref r_want, .ref r_sendCount, .ref r_send, .ref r_owner, .ref r_value, .ref r_there, .ref r_lost, .int m_losing, .int m_changes, .ref r_changedBy, .ref r_changed, .ref r_before, .int m_logged, .ref r_log]))] := hD
  refine lv_aload_n hx hb dX6_wants_5 rfl (lv_at hl 0 rfl) ?_
  refine lv_iload_n hx hb dX6_wants_6 rfl (lv_at hl 1 rfl) ?_
  refine lv_iload_n hx hb dX6_wants_7 rfl (lv_at hl 2 rfl) ?_
  refine vp_callSi (va_Run.run (va_runV (As := [.int w, .int b]) (rest := []) ⟨hx, hb, hml, hown, hts⟩ (c_misStep0 l dC dI cI y r_steps r_failsAt r_state r_step r_got r_latest r_begun r_asked r_again r_waitsFor r_since r_wantCount r_want r_sendCount r_send r_owner r_value r_there r_lost r_changedBy r_changed r_before r_log 0 m_clock m_losing m_changes m_logged w b) (cwV 2 hts gX6_wants_X6_isStep rfl rfl rfl (by decide +kernel) ⟨Nat.le_of_ble_eq_true rfl, Nat.le_of_ble_eq_true rfl⟩) (rP_preV hKK (hP.sub (ws' := [(y, .inr (6, [.int 0, .int 0, .ref r_steps, .ref r_failsAt, .ref r_state, .ref r_step, .ref r_got, .ref r_latest, .ref r_begun, .ref r_asked, .ref r_again, .ref r_waitsFor, .ref r_since, .int m_clock, .ref r_wantCount, .ref r_want, .ref r_sendCount, .ref r_send, .ref r_owner, .ref r_value, .ref r_there, .ref r_lost, .int m_losing, .int m_changes, .ref r_changedBy, .ref r_changed, .ref r_before, .int m_logged, .ref r_log]))]) [0] rfl) (va_recv hKK.1 hP (ci := 6) (q0 := 0) rfl rfl)) rfl rfl hl.1 rfl (lv_room (Nat.le_of_ble_eq_true rfl)) dX6_wants_8 ⟨(show 0 + 0 ≤ 0 by omega), (show 0 + 0 ≤ 0 by omega)⟩)) (fun r_1 hr_1 => ?_)
  obtain rfl : r_1 = 0 := hr_1
  refine lv_if_ne (tgt := 16) hx hb dX6_wants_11 (by decide) (fun c_2 => ?_) (fun c_2 => ?_)
  · exact absurd c_2 (by decide)
  · refine lv_iconst (v := (-1)) hx hb dX6_wants_14 (by decide) ?_
    refine W.widen (k := 0) (n := 0) (by omega) (by omega) ?_
    have hP9 := hP.sub (ws' := []) [] rfl
    have hD9 := hD.sub (ws' := []) [] (by decide) rfl
    exact W.iret (v := (-1)) hx hb hr (fun t ht hW => ⟨⟨(-1), (), rfl, rfl, by rw [ht]; exact hP9, hD9⟩, hS.F ht⟩) hS.2.2 dX6_wants_15
theorem iX6_sends_X6 : ∀ w ∈ u_ws RX6 TX6 29, w ∈ wsX6_sends := by decide +kernel
set_option maxHeartbeats 4000000 in
set_option maxRecDepth 100000 in
/-- sends, no works -/
theorem c_msends0 (l : Launch) (dC : Nat → ClassId) (dI : Nat → Nat → Nat) (cI : ClassId) (sz : Nat) (y r_steps r_failsAt r_state r_step r_got r_latest r_begun r_asked r_again r_waitsFor r_since r_wantCount r_want r_sendCount r_send r_owner r_value r_there r_lost r_changedBy r_changed r_before r_log : Nat) (m_thrown m_clock m_losing m_changes m_logged : Int32) (w b d : Int32) : Met l yX6_sends wsX6_sends ({ frames := 3, cells := 0, slots := 0, locals := 70 }) (uP dC dI cI [.ref y, .int w, .int b, .int d] [(y, .inr (6, [.int m_thrown, .int 0, .ref r_steps, .ref r_failsAt, .ref r_state, .ref r_step, .ref r_got, .ref r_latest, .ref r_begun, .ref r_asked, .ref r_again, .ref r_waitsFor, .ref r_since, .int m_clock, .ref r_wantCount, .ref r_want, .ref r_sendCount, .ref r_send, .ref r_owner, .ref r_value, .ref r_there, .ref r_lost, .int m_losing, .int m_changes, .ref r_changedBy, .ref r_changed, .ref r_before, .int m_logged, .ref r_log]))] sz) (va_Qi (fun r _ => r = -1) (fun (u : Unit) t => uB dC dI (va_A [(y, .inr (6, [.int m_thrown, .int 0, .ref r_steps, .ref r_failsAt, .ref r_state, .ref r_step, .ref r_got, .ref r_latest, .ref r_begun, .ref r_asked, .ref r_again, .ref r_waitsFor, .ref r_since, .int m_clock, .ref r_wantCount, .ref r_want, .ref r_sendCount, .ref r_send, .ref r_owner, .ref r_value, .ref r_there, .ref r_lost, .int m_losing, .int m_changes, .ref r_changedBy, .ref r_changed, .ref r_before, .int m_logged, .ref r_log]))] sz) [] t) (va_A [(y, .inr (6, [.int m_thrown, .int 0, .ref r_steps, .ref r_failsAt, .ref r_state, .ref r_step, .ref r_got, .ref r_latest, .ref r_begun, .ref r_asked, .ref r_again, .ref r_waitsFor, .ref r_since, .int m_clock, .ref r_wantCount, .ref r_want, .ref r_sendCount, .ref r_send, .ref r_owner, .ref r_value, .ref r_there, .ref r_lost, .int m_losing, .int m_changes, .ref r_changedBy, .ref r_changed, .ref r_before, .int m_logged, .ref r_log]))] sz)) 0 0 (va_A [(y, .inr (6, [.int m_thrown, .int 0, .ref r_steps, .ref r_failsAt, .ref r_state, .ref r_step, .ref r_got, .ref r_latest, .ref r_begun, .ref r_asked, .ref r_again, .ref r_waitsFor, .ref r_since, .int m_clock, .ref r_wantCount, .ref r_want, .ref r_sendCount, .ref r_send, .ref r_owner, .ref r_value, .ref r_there, .ref r_lost, .int m_losing, .int m_changes, .ref r_changedBy, .ref r_changed, .ref r_before, .int m_logged, .ref r_log]))] sz) := by
  refine Met.ofW (cc := cX6_sends) (maxL := 5) (ret := (some .int)) (by decide) rfl ?_
  intro p e s m args below meth c s₁ B hml hv
  obtain ⟨rfl, hsz, hP, hKK, hD0⟩ := hv
  have hx := B.exec
  have hb := B.bytes
  have hr := B.returns
  have hts := atoms_spec (ws := wsX6_sends) B.pre
  have hown : s.vm.findClass RX6 = some m.cls := findClass_of_methodNamed B.named
  have hlocks := B.notSynchronized
  subst hsz
  have hD := hD0.self (sz := s.heap.size)
  generalize hAe : va_A [(y, .inr (6, [.int m_thrown, .int 0, .ref r_steps, .ref r_failsAt, .ref r_state, .ref r_step, .ref r_got, .ref r_latest, .ref r_begun, .ref r_asked, .ref r_again, .ref r_waitsFor, .ref r_since, .int m_clock, .ref r_wantCount, .ref r_want, .ref r_sendCount, .ref r_send, .ref r_owner, .ref r_value, .ref r_there, .ref r_lost, .int m_losing, .int m_changes, .ref r_changedBy, .ref r_changed, .ref r_before, .int m_logged, .ref r_log]))] s.heap.size = A at hD ⊢
  have hA : ∀ q : Nat, s.heap.size ≤ q → A q := fun q h => by rw [← hAe]; exact Or.inr h
  have hS : va_S A s.heap s.heap [] := va_S.rf
  have hP : va_P (dC, dI) vwCl [(y, .inr (6, [.int m_thrown, .int 0, .ref r_steps, .ref r_failsAt, .ref r_state, .ref r_step, .ref r_got, .ref r_latest, .ref r_begun, .ref r_asked, .ref r_again, .ref r_waitsFor, .ref r_since, .int m_clock, .ref r_wantCount, .ref r_want, .ref r_sendCount, .ref r_send, .ref r_owner, .ref r_value, .ref r_there, .ref r_lost, .int m_losing, .int m_changes, .ref r_changedBy, .ref r_changed, .ref r_before, .int m_logged, .ref r_log]))] s.heap := hP
  have hl := lv_entry ([.ref y, .int w, .int b, .int d]) (n := 5) (Nat.le_of_ble_eq_true rfl)
  rw [lg_entry_eq]
  generalize (lg_sl ([.ref y, .int w, .int b, .int d]) ++ List.replicate (5 - (lg_sl ([.ref y, .int w, .int b, .int d])).length) Slot.unset).toArray = ls at hl ⊢
  have hl : lv_has ls 5 [(0, .ref y), (1, .int w), (2, .int b), (3, .int d)] := hl
  refine lv_aload_n hx hb dX6_sends_0 rfl (lv_at hl 0 rfl) ?_
  refine lv_iconst (v := 0) hx hb dX6_sends_1 (by decide) ?_
  refine va_put (D := (dC, dI)) (ci := 6) (v := .int 0) (ty := .int) (C := RX6) (T := TX6) (N := 29) hx hb hts iX6_sends_X6 tyX6 tyX6_ok nmX6 hown hKK.1 hP hD hS 0 rfl rfl 0 (by decide) (hts (.fieldLink RX6 80 "LendThreadsModel" "thrown" "I") (by decide +kernel)) (fun _ h9 => h9) rfl (by decide +kernel) rfl rfl (Nat.le_of_ble_eq_true rfl) dX6_sends_2 (fun H locs hP hD hS => ?_)
  have hP : va_P (dC, dI) vwCl [(y, .inr (6, [.int 0, .int 0, .ref r_steps, .ref r_failsAt, .ref r_state, .ref r_step, .ref r_got, .ref r_latest, .ref r_begun, .ref r_asked, .ref r_again, .ref r_waitsFor, .ref r_since, .int m_clock, .ref r_wantCount, .ref r_want, .ref r_sendCount, .ref r_send, .ref r_owner, .ref r_value, .ref r_there, .ref r_lost, .int m_losing, .int m_changes, .ref r_changedBy, .ref r_changed, .ref r_before, .int m_logged, .ref r_log]))] H := hP
  have hD : va_D A [(y, .inr (6, [.int 0, .int 0, .ref r_steps, .ref r_failsAt, .ref r_state, .ref r_step, .ref r_got, .ref r_latest, .ref r_begun, .ref r_asked, .ref r_again, .ref r_waitsFor, .ref r_since, .int m_clock, .ref r_wantCount, .ref r_want, .ref r_sendCount, .ref r_send, .ref r_owner, .ref r_value, .ref r_there, .ref r_lost, .int m_losing, .int m_changes, .ref r_changedBy, .ref r_changed, .ref r_before, .int m_logged, .ref r_log]))] := hD
  refine lv_aload_n hx hb dX6_sends_5 rfl (lv_at hl 0 rfl) ?_
  refine lv_iload_n hx hb dX6_sends_6 rfl (lv_at hl 1 rfl) ?_
  refine lv_iload_n hx hb dX6_sends_7 rfl (lv_at hl 2 rfl) ?_
  refine vp_callSi (va_Run.run (va_runV (As := [.int w, .int b]) (rest := []) ⟨hx, hb, hml, hown, hts⟩ (c_misStep0 l dC dI cI y r_steps r_failsAt r_state r_step r_got r_latest r_begun r_asked r_again r_waitsFor r_since r_wantCount r_want r_sendCount r_send r_owner r_value r_there r_lost r_changedBy r_changed r_before r_log 0 m_clock m_losing m_changes m_logged w b) (cwV 2 hts gX6_sends_X6_isStep rfl rfl rfl (by decide +kernel) ⟨Nat.le_of_ble_eq_true rfl, Nat.le_of_ble_eq_true rfl⟩) (rP_preV hKK (hP.sub (ws' := [(y, .inr (6, [.int 0, .int 0, .ref r_steps, .ref r_failsAt, .ref r_state, .ref r_step, .ref r_got, .ref r_latest, .ref r_begun, .ref r_asked, .ref r_again, .ref r_waitsFor, .ref r_since, .int m_clock, .ref r_wantCount, .ref r_want, .ref r_sendCount, .ref r_send, .ref r_owner, .ref r_value, .ref r_there, .ref r_lost, .int m_losing, .int m_changes, .ref r_changedBy, .ref r_changed, .ref r_before, .int m_logged, .ref r_log]))]) [0] rfl) (va_recv hKK.1 hP (ci := 6) (q0 := 0) rfl rfl)) rfl rfl hl.1 rfl (lv_room (Nat.le_of_ble_eq_true rfl)) dX6_sends_8 ⟨(show 0 + 0 ≤ 0 by omega), (show 0 + 0 ≤ 0 by omega)⟩)) (fun r_1 hr_1 => ?_)
  obtain rfl : r_1 = 0 := hr_1
  refine lv_if_ne (tgt := 16) hx hb dX6_sends_11 (by decide) (fun c_2 => ?_) (fun c_2 => ?_)
  · exact absurd c_2 (by decide)
  · refine lv_iconst (v := (-1)) hx hb dX6_sends_14 (by decide) ?_
    refine W.widen (k := 0) (n := 0) (by omega) (by omega) ?_
    have hP9 := hP.sub (ws' := []) [] rfl
    have hD9 := hD.sub (ws' := []) [] (by decide) rfl
    exact W.iret (v := (-1)) hx hb hr (fun t ht hW => ⟨⟨(-1), (), rfl, rfl, by rw [ht]; exact hP9, hD9⟩, hS.F ht⟩) hS.2.2 dX6_sends_15
theorem iX6_turn_X6 : ∀ w ∈ u_ws RX6 TX6 29, w ∈ wsX6_turn := by decide +kernel
set_option maxHeartbeats 4000000 in
set_option maxRecDepth 100000 in
/-- turn, no works -/
theorem c_mturn0 (l : Launch) (dC : Nat → ClassId) (dI : Nat → Nat → Nat) (cI : ClassId) (sz : Nat) (y r_steps r_failsAt r_state r_step r_got r_latest r_begun r_asked r_again r_waitsFor r_since r_wantCount r_want r_sendCount r_send r_owner r_value r_there r_lost r_changedBy r_changed r_before r_log : Nat) (m_thrown m_clock m_losing m_changes m_logged : Int32) (w : Int32) : Met l yX6_turn wsX6_turn ({ frames := 3, cells := 0, slots := 0, locals := 70 }) (uP dC dI cI [.ref y, .int w] [(y, .inr (6, [.int m_thrown, .int 0, .ref r_steps, .ref r_failsAt, .ref r_state, .ref r_step, .ref r_got, .ref r_latest, .ref r_begun, .ref r_asked, .ref r_again, .ref r_waitsFor, .ref r_since, .int m_clock, .ref r_wantCount, .ref r_want, .ref r_sendCount, .ref r_send, .ref r_owner, .ref r_value, .ref r_there, .ref r_lost, .int m_losing, .int m_changes, .ref r_changedBy, .ref r_changed, .ref r_before, .int m_logged, .ref r_log]))] sz) (va_Qi (fun r _ => r = 0) (fun (u : Unit) t => uB dC dI (va_A [(y, .inr (6, [.int m_thrown, .int 0, .ref r_steps, .ref r_failsAt, .ref r_state, .ref r_step, .ref r_got, .ref r_latest, .ref r_begun, .ref r_asked, .ref r_again, .ref r_waitsFor, .ref r_since, .int m_clock, .ref r_wantCount, .ref r_want, .ref r_sendCount, .ref r_send, .ref r_owner, .ref r_value, .ref r_there, .ref r_lost, .int m_losing, .int m_changes, .ref r_changedBy, .ref r_changed, .ref r_before, .int m_logged, .ref r_log]))] sz) [] t) (va_A [(y, .inr (6, [.int m_thrown, .int 0, .ref r_steps, .ref r_failsAt, .ref r_state, .ref r_step, .ref r_got, .ref r_latest, .ref r_begun, .ref r_asked, .ref r_again, .ref r_waitsFor, .ref r_since, .int m_clock, .ref r_wantCount, .ref r_want, .ref r_sendCount, .ref r_send, .ref r_owner, .ref r_value, .ref r_there, .ref r_lost, .int m_losing, .int m_changes, .ref r_changedBy, .ref r_changed, .ref r_before, .int m_logged, .ref r_log]))] sz)) 0 0 (va_A [(y, .inr (6, [.int m_thrown, .int 0, .ref r_steps, .ref r_failsAt, .ref r_state, .ref r_step, .ref r_got, .ref r_latest, .ref r_begun, .ref r_asked, .ref r_again, .ref r_waitsFor, .ref r_since, .int m_clock, .ref r_wantCount, .ref r_want, .ref r_sendCount, .ref r_send, .ref r_owner, .ref r_value, .ref r_there, .ref r_lost, .int m_losing, .int m_changes, .ref r_changedBy, .ref r_changed, .ref r_before, .int m_logged, .ref r_log]))] sz) := by
  refine Met.ofW (cc := cX6_turn) (maxL := 2) (ret := (some .int)) (by decide) rfl ?_
  intro p e s m args below meth c s₁ B hml hv
  obtain ⟨rfl, hsz, hP, hKK, hD0⟩ := hv
  have hx := B.exec
  have hb := B.bytes
  have hr := B.returns
  have hts := atoms_spec (ws := wsX6_turn) B.pre
  have hown : s.vm.findClass RX6 = some m.cls := findClass_of_methodNamed B.named
  have hlocks := B.notSynchronized
  subst hsz
  have hD := hD0.self (sz := s.heap.size)
  generalize hAe : va_A [(y, .inr (6, [.int m_thrown, .int 0, .ref r_steps, .ref r_failsAt, .ref r_state, .ref r_step, .ref r_got, .ref r_latest, .ref r_begun, .ref r_asked, .ref r_again, .ref r_waitsFor, .ref r_since, .int m_clock, .ref r_wantCount, .ref r_want, .ref r_sendCount, .ref r_send, .ref r_owner, .ref r_value, .ref r_there, .ref r_lost, .int m_losing, .int m_changes, .ref r_changedBy, .ref r_changed, .ref r_before, .int m_logged, .ref r_log]))] s.heap.size = A at hD ⊢
  have hA : ∀ q : Nat, s.heap.size ≤ q → A q := fun q h => by rw [← hAe]; exact Or.inr h
  have hS : va_S A s.heap s.heap [] := va_S.rf
  have hP : va_P (dC, dI) vwCl [(y, .inr (6, [.int m_thrown, .int 0, .ref r_steps, .ref r_failsAt, .ref r_state, .ref r_step, .ref r_got, .ref r_latest, .ref r_begun, .ref r_asked, .ref r_again, .ref r_waitsFor, .ref r_since, .int m_clock, .ref r_wantCount, .ref r_want, .ref r_sendCount, .ref r_send, .ref r_owner, .ref r_value, .ref r_there, .ref r_lost, .int m_losing, .int m_changes, .ref r_changedBy, .ref r_changed, .ref r_before, .int m_logged, .ref r_log]))] s.heap := hP
  have hl := lv_entry ([.ref y, .int w]) (n := 2) (Nat.le_of_ble_eq_true rfl)
  rw [lg_entry_eq]
  generalize (lg_sl ([.ref y, .int w]) ++ List.replicate (2 - (lg_sl ([.ref y, .int w])).length) Slot.unset).toArray = ls at hl ⊢
  have hl : lv_has ls 2 [(0, .ref y), (1, .int w)] := hl
  refine lv_aload_n hx hb dX6_turn_0 rfl (lv_at hl 0 rfl) ?_
  refine lv_iconst (v := 0) hx hb dX6_turn_1 (by decide) ?_
  refine va_put (D := (dC, dI)) (ci := 6) (v := .int 0) (ty := .int) (C := RX6) (T := TX6) (N := 29) hx hb hts iX6_turn_X6 tyX6 tyX6_ok nmX6 hown hKK.1 hP hD hS 0 rfl rfl 0 (by decide) (hts (.fieldLink RX6 80 "LendThreadsModel" "thrown" "I") (by decide +kernel)) (fun _ h9 => h9) rfl (by decide +kernel) rfl rfl (Nat.le_of_ble_eq_true rfl) dX6_turn_2 (fun H locs hP hD hS => ?_)
  have hP : va_P (dC, dI) vwCl [(y, .inr (6, [.int 0, .int 0, .ref r_steps, .ref r_failsAt, .ref r_state, .ref r_step, .ref r_got, .ref r_latest, .ref r_begun, .ref r_asked, .ref r_again, .ref r_waitsFor, .ref r_since, .int m_clock, .ref r_wantCount, .ref r_want, .ref r_sendCount, .ref r_send, .ref r_owner, .ref r_value, .ref r_there, .ref r_lost, .int m_losing, .int m_changes, .ref r_changedBy, .ref r_changed, .ref r_before, .int m_logged, .ref r_log]))] H := hP
  have hD : va_D A [(y, .inr (6, [.int 0, .int 0, .ref r_steps, .ref r_failsAt, .ref r_state, .ref r_step, .ref r_got, .ref r_latest, .ref r_begun, .ref r_asked, .ref r_again, .ref r_waitsFor, .ref r_since, .int m_clock, .ref r_wantCount, .ref r_want, .ref r_sendCount, .ref r_send, .ref r_owner, .ref r_value, .ref r_there, .ref r_lost, .int m_losing, .int m_changes, .ref r_changedBy, .ref r_changed, .ref r_before, .int m_logged, .ref r_log]))] := hD
  refine lv_aload_n hx hb dX6_turn_5 rfl (lv_at hl 0 rfl) ?_
  refine lv_iload_n hx hb dX6_turn_6 rfl (lv_at hl 1 rfl) ?_
  refine vp_callSi (va_Run.run (va_runV (As := [.int w]) (rest := []) ⟨hx, hb, hml, hown, hts⟩ (c_mdoes0 l dC dI cI y r_steps r_failsAt r_state r_step r_got r_latest r_begun r_asked r_again r_waitsFor r_since r_wantCount r_want r_sendCount r_send r_owner r_value r_there r_lost r_changedBy r_changed r_before r_log 0 m_clock m_losing m_changes m_logged w) (cwV 1 hts gX6_turn_X6_does rfl rfl rfl (by decide +kernel) ⟨Nat.le_of_ble_eq_true rfl, Nat.le_of_ble_eq_true rfl⟩) (rP_preV hKK (hP.sub (ws' := [(y, .inr (6, [.int 0, .int 0, .ref r_steps, .ref r_failsAt, .ref r_state, .ref r_step, .ref r_got, .ref r_latest, .ref r_begun, .ref r_asked, .ref r_again, .ref r_waitsFor, .ref r_since, .int m_clock, .ref r_wantCount, .ref r_want, .ref r_sendCount, .ref r_send, .ref r_owner, .ref r_value, .ref r_there, .ref r_lost, .int m_losing, .int m_changes, .ref r_changedBy, .ref r_changed, .ref r_before, .int m_logged, .ref r_log]))]) [0] rfl) (va_recv hKK.1 hP (ci := 6) (q0 := 0) rfl rfl)) rfl rfl hl.1 rfl (lv_room (Nat.le_of_ble_eq_true rfl)) dX6_turn_7 ⟨(show 0 + 0 ≤ 0 by omega), (show 0 + 0 ≤ 0 by omega)⟩)) (fun r_1 hr_1 => ?_)
  obtain rfl : r_1 = 0 := hr_1
  refine W.widen (k := 0) (n := 0) (by omega) (by omega) ?_
  have hP9 := hP.sub (ws' := []) [] rfl
  have hD9 := hD.sub (ws' := []) [] (by decide) rfl
  exact W.iret (v := 0) hx hb hr (fun t ht hW => ⟨⟨0, (), rfl, rfl, by rw [ht]; exact hP9, hD9⟩, hS.F ht⟩) hS.2.2 dX6_turn_10
theorem iX6_interrupt_X6 : ∀ w ∈ u_ws RX6 TX6 29, w ∈ wsX6_interrupt := by decide +kernel
set_option maxHeartbeats 4000000 in
set_option maxRecDepth 100000 in
/-- interrupt, no works -/
theorem c_minterrupt0 (l : Launch) (dC : Nat → ClassId) (dI : Nat → Nat → Nat) (cI : ClassId) (sz : Nat) (y r_steps r_failsAt r_state r_step r_got r_latest r_begun r_asked r_again r_waitsFor r_since r_wantCount r_want r_sendCount r_send r_owner r_value r_there r_lost r_changedBy r_changed r_before r_log : Nat) (m_thrown m_clock m_losing m_changes m_logged : Int32) (w : Int32) : Met l yX6_interrupt wsX6_interrupt ({ frames := 3, cells := 0, slots := 0, locals := 70 }) (uP dC dI cI [.ref y, .int w] [(y, .inr (6, [.int m_thrown, .int 0, .ref r_steps, .ref r_failsAt, .ref r_state, .ref r_step, .ref r_got, .ref r_latest, .ref r_begun, .ref r_asked, .ref r_again, .ref r_waitsFor, .ref r_since, .int m_clock, .ref r_wantCount, .ref r_want, .ref r_sendCount, .ref r_send, .ref r_owner, .ref r_value, .ref r_there, .ref r_lost, .int m_losing, .int m_changes, .ref r_changedBy, .ref r_changed, .ref r_before, .int m_logged, .ref r_log]))] sz) (va_Qi (fun r _ => r = -1) (fun (u : Unit) t => uB dC dI (va_A [(y, .inr (6, [.int m_thrown, .int 0, .ref r_steps, .ref r_failsAt, .ref r_state, .ref r_step, .ref r_got, .ref r_latest, .ref r_begun, .ref r_asked, .ref r_again, .ref r_waitsFor, .ref r_since, .int m_clock, .ref r_wantCount, .ref r_want, .ref r_sendCount, .ref r_send, .ref r_owner, .ref r_value, .ref r_there, .ref r_lost, .int m_losing, .int m_changes, .ref r_changedBy, .ref r_changed, .ref r_before, .int m_logged, .ref r_log]))] sz) [] t) (va_A [(y, .inr (6, [.int m_thrown, .int 0, .ref r_steps, .ref r_failsAt, .ref r_state, .ref r_step, .ref r_got, .ref r_latest, .ref r_begun, .ref r_asked, .ref r_again, .ref r_waitsFor, .ref r_since, .int m_clock, .ref r_wantCount, .ref r_want, .ref r_sendCount, .ref r_send, .ref r_owner, .ref r_value, .ref r_there, .ref r_lost, .int m_losing, .int m_changes, .ref r_changedBy, .ref r_changed, .ref r_before, .int m_logged, .ref r_log]))] sz)) 0 0 (va_A [(y, .inr (6, [.int m_thrown, .int 0, .ref r_steps, .ref r_failsAt, .ref r_state, .ref r_step, .ref r_got, .ref r_latest, .ref r_begun, .ref r_asked, .ref r_again, .ref r_waitsFor, .ref r_since, .int m_clock, .ref r_wantCount, .ref r_want, .ref r_sendCount, .ref r_send, .ref r_owner, .ref r_value, .ref r_there, .ref r_lost, .int m_losing, .int m_changes, .ref r_changedBy, .ref r_changed, .ref r_before, .int m_logged, .ref r_log]))] sz) := by
  refine Met.ofW (cc := cX6_interrupt) (maxL := 2) (ret := (some .int)) (by decide) rfl ?_
  intro p e s m args below meth c s₁ B hml hv
  obtain ⟨rfl, hsz, hP, hKK, hD0⟩ := hv
  have hx := B.exec
  have hb := B.bytes
  have hr := B.returns
  have hts := atoms_spec (ws := wsX6_interrupt) B.pre
  have hown : s.vm.findClass RX6 = some m.cls := findClass_of_methodNamed B.named
  have hlocks := B.notSynchronized
  subst hsz
  have hD := hD0.self (sz := s.heap.size)
  generalize hAe : va_A [(y, .inr (6, [.int m_thrown, .int 0, .ref r_steps, .ref r_failsAt, .ref r_state, .ref r_step, .ref r_got, .ref r_latest, .ref r_begun, .ref r_asked, .ref r_again, .ref r_waitsFor, .ref r_since, .int m_clock, .ref r_wantCount, .ref r_want, .ref r_sendCount, .ref r_send, .ref r_owner, .ref r_value, .ref r_there, .ref r_lost, .int m_losing, .int m_changes, .ref r_changedBy, .ref r_changed, .ref r_before, .int m_logged, .ref r_log]))] s.heap.size = A at hD ⊢
  have hA : ∀ q : Nat, s.heap.size ≤ q → A q := fun q h => by rw [← hAe]; exact Or.inr h
  have hS : va_S A s.heap s.heap [] := va_S.rf
  have hP : va_P (dC, dI) vwCl [(y, .inr (6, [.int m_thrown, .int 0, .ref r_steps, .ref r_failsAt, .ref r_state, .ref r_step, .ref r_got, .ref r_latest, .ref r_begun, .ref r_asked, .ref r_again, .ref r_waitsFor, .ref r_since, .int m_clock, .ref r_wantCount, .ref r_want, .ref r_sendCount, .ref r_send, .ref r_owner, .ref r_value, .ref r_there, .ref r_lost, .int m_losing, .int m_changes, .ref r_changedBy, .ref r_changed, .ref r_before, .int m_logged, .ref r_log]))] s.heap := hP
  have hl := lv_entry ([.ref y, .int w]) (n := 2) (Nat.le_of_ble_eq_true rfl)
  rw [lg_entry_eq]
  generalize (lg_sl ([.ref y, .int w]) ++ List.replicate (2 - (lg_sl ([.ref y, .int w])).length) Slot.unset).toArray = ls at hl ⊢
  have hl : lv_has ls 2 [(0, .ref y), (1, .int w)] := hl
  refine lv_aload_n hx hb dX6_interrupt_0 rfl (lv_at hl 0 rfl) ?_
  refine lv_iconst (v := 0) hx hb dX6_interrupt_1 (by decide) ?_
  refine va_put (D := (dC, dI)) (ci := 6) (v := .int 0) (ty := .int) (C := RX6) (T := TX6) (N := 29) hx hb hts iX6_interrupt_X6 tyX6 tyX6_ok nmX6 hown hKK.1 hP hD hS 0 rfl rfl 0 (by decide) (hts (.fieldLink RX6 80 "LendThreadsModel" "thrown" "I") (by decide +kernel)) (fun _ h9 => h9) rfl (by decide +kernel) rfl rfl (Nat.le_of_ble_eq_true rfl) dX6_interrupt_2 (fun H locs hP hD hS => ?_)
  have hP : va_P (dC, dI) vwCl [(y, .inr (6, [.int 0, .int 0, .ref r_steps, .ref r_failsAt, .ref r_state, .ref r_step, .ref r_got, .ref r_latest, .ref r_begun, .ref r_asked, .ref r_again, .ref r_waitsFor, .ref r_since, .int m_clock, .ref r_wantCount, .ref r_want, .ref r_sendCount, .ref r_send, .ref r_owner, .ref r_value, .ref r_there, .ref r_lost, .int m_losing, .int m_changes, .ref r_changedBy, .ref r_changed, .ref r_before, .int m_logged, .ref r_log]))] H := hP
  have hD : va_D A [(y, .inr (6, [.int 0, .int 0, .ref r_steps, .ref r_failsAt, .ref r_state, .ref r_step, .ref r_got, .ref r_latest, .ref r_begun, .ref r_asked, .ref r_again, .ref r_waitsFor, .ref r_since, .int m_clock, .ref r_wantCount, .ref r_want, .ref r_sendCount, .ref r_send, .ref r_owner, .ref r_value, .ref r_there, .ref r_lost, .int m_losing, .int m_changes, .ref r_changedBy, .ref r_changed, .ref r_before, .int m_logged, .ref r_log]))] := hD
  refine lv_aload_n hx hb dX6_interrupt_5 rfl (lv_at hl 0 rfl) ?_
  refine lv_iload_n hx hb dX6_interrupt_6 rfl (lv_at hl 1 rfl) ?_
  refine vp_callSi (va_Run.run (va_runV (As := [.int w]) (rest := []) ⟨hx, hb, hml, hown, hts⟩ (c_misWork0 l dC dI cI y r_steps r_failsAt r_state r_step r_got r_latest r_begun r_asked r_again r_waitsFor r_since r_wantCount r_want r_sendCount r_send r_owner r_value r_there r_lost r_changedBy r_changed r_before r_log 0 m_clock m_losing m_changes m_logged w) (cwV 1 hts gX6_interrupt_X6_isWork rfl rfl rfl (by decide +kernel) ⟨Nat.le_of_ble_eq_true rfl, Nat.le_of_ble_eq_true rfl⟩) (rP_preV hKK (hP.sub (ws' := [(y, .inr (6, [.int 0, .int 0, .ref r_steps, .ref r_failsAt, .ref r_state, .ref r_step, .ref r_got, .ref r_latest, .ref r_begun, .ref r_asked, .ref r_again, .ref r_waitsFor, .ref r_since, .int m_clock, .ref r_wantCount, .ref r_want, .ref r_sendCount, .ref r_send, .ref r_owner, .ref r_value, .ref r_there, .ref r_lost, .int m_losing, .int m_changes, .ref r_changedBy, .ref r_changed, .ref r_before, .int m_logged, .ref r_log]))]) [0] rfl) (va_recv hKK.1 hP (ci := 6) (q0 := 0) rfl rfl)) rfl rfl hl.1 rfl (lv_room (Nat.le_of_ble_eq_true rfl)) dX6_interrupt_7 ⟨(show 0 + 0 ≤ 0 by omega), (show 0 + 0 ≤ 0 by omega)⟩)) (fun r_1 hr_1 => ?_)
  obtain rfl : r_1 = 0 := hr_1
  refine lv_if_ne (tgt := 15) hx hb dX6_interrupt_10 (by decide) (fun c_2 => ?_) (fun c_2 => ?_)
  · exact absurd c_2 (by decide)
  · refine lv_iconst (v := (-1)) hx hb dX6_interrupt_13 (by decide) ?_
    refine W.widen (k := 0) (n := 0) (by omega) (by omega) ?_
    have hP9 := hP.sub (ws' := []) [] rfl
    have hD9 := hD.sub (ws' := []) [] (by decide) rfl
    exact W.iret (v := (-1)) hx hb hr (fun t ht hW => ⟨⟨(-1), (), rfl, rfl, by rw [ht]; exact hP9, hD9⟩, hS.F ht⟩) hS.2.2 dX6_interrupt_14
theorem iX6_again_X6 : ∀ w ∈ u_ws RX6 TX6 29, w ∈ wsX6_again := by decide +kernel
set_option maxHeartbeats 4000000 in
set_option maxRecDepth 100000 in
/-- again, no works -/
theorem c_magain0 (l : Launch) (dC : Nat → ClassId) (dI : Nat → Nat → Nat) (cI : ClassId) (sz : Nat) (y r_steps r_failsAt r_state r_step r_got r_latest r_begun r_asked r_again r_waitsFor r_since r_wantCount r_want r_sendCount r_send r_owner r_value r_there r_lost r_changedBy r_changed r_before r_log : Nat) (m_thrown m_clock m_losing m_changes m_logged : Int32) (w : Int32) : Met l yX6_again wsX6_again ({ frames := 3, cells := 0, slots := 0, locals := 70 }) (uP dC dI cI [.ref y, .int w] [(y, .inr (6, [.int m_thrown, .int 0, .ref r_steps, .ref r_failsAt, .ref r_state, .ref r_step, .ref r_got, .ref r_latest, .ref r_begun, .ref r_asked, .ref r_again, .ref r_waitsFor, .ref r_since, .int m_clock, .ref r_wantCount, .ref r_want, .ref r_sendCount, .ref r_send, .ref r_owner, .ref r_value, .ref r_there, .ref r_lost, .int m_losing, .int m_changes, .ref r_changedBy, .ref r_changed, .ref r_before, .int m_logged, .ref r_log]))] sz) (va_Qi (fun r _ => r = -1) (fun (u : Unit) t => uB dC dI (va_A [(y, .inr (6, [.int m_thrown, .int 0, .ref r_steps, .ref r_failsAt, .ref r_state, .ref r_step, .ref r_got, .ref r_latest, .ref r_begun, .ref r_asked, .ref r_again, .ref r_waitsFor, .ref r_since, .int m_clock, .ref r_wantCount, .ref r_want, .ref r_sendCount, .ref r_send, .ref r_owner, .ref r_value, .ref r_there, .ref r_lost, .int m_losing, .int m_changes, .ref r_changedBy, .ref r_changed, .ref r_before, .int m_logged, .ref r_log]))] sz) [] t) (va_A [(y, .inr (6, [.int m_thrown, .int 0, .ref r_steps, .ref r_failsAt, .ref r_state, .ref r_step, .ref r_got, .ref r_latest, .ref r_begun, .ref r_asked, .ref r_again, .ref r_waitsFor, .ref r_since, .int m_clock, .ref r_wantCount, .ref r_want, .ref r_sendCount, .ref r_send, .ref r_owner, .ref r_value, .ref r_there, .ref r_lost, .int m_losing, .int m_changes, .ref r_changedBy, .ref r_changed, .ref r_before, .int m_logged, .ref r_log]))] sz)) 0 0 (va_A [(y, .inr (6, [.int m_thrown, .int 0, .ref r_steps, .ref r_failsAt, .ref r_state, .ref r_step, .ref r_got, .ref r_latest, .ref r_begun, .ref r_asked, .ref r_again, .ref r_waitsFor, .ref r_since, .int m_clock, .ref r_wantCount, .ref r_want, .ref r_sendCount, .ref r_send, .ref r_owner, .ref r_value, .ref r_there, .ref r_lost, .int m_losing, .int m_changes, .ref r_changedBy, .ref r_changed, .ref r_before, .int m_logged, .ref r_log]))] sz) := by
  refine Met.ofW (cc := cX6_again) (maxL := 2) (ret := (some .int)) (by decide) rfl ?_
  intro p e s m args below meth c s₁ B hml hv
  obtain ⟨rfl, hsz, hP, hKK, hD0⟩ := hv
  have hx := B.exec
  have hb := B.bytes
  have hr := B.returns
  have hts := atoms_spec (ws := wsX6_again) B.pre
  have hown : s.vm.findClass RX6 = some m.cls := findClass_of_methodNamed B.named
  have hlocks := B.notSynchronized
  subst hsz
  have hD := hD0.self (sz := s.heap.size)
  generalize hAe : va_A [(y, .inr (6, [.int m_thrown, .int 0, .ref r_steps, .ref r_failsAt, .ref r_state, .ref r_step, .ref r_got, .ref r_latest, .ref r_begun, .ref r_asked, .ref r_again, .ref r_waitsFor, .ref r_since, .int m_clock, .ref r_wantCount, .ref r_want, .ref r_sendCount, .ref r_send, .ref r_owner, .ref r_value, .ref r_there, .ref r_lost, .int m_losing, .int m_changes, .ref r_changedBy, .ref r_changed, .ref r_before, .int m_logged, .ref r_log]))] s.heap.size = A at hD ⊢
  have hA : ∀ q : Nat, s.heap.size ≤ q → A q := fun q h => by rw [← hAe]; exact Or.inr h
  have hS : va_S A s.heap s.heap [] := va_S.rf
  have hP : va_P (dC, dI) vwCl [(y, .inr (6, [.int m_thrown, .int 0, .ref r_steps, .ref r_failsAt, .ref r_state, .ref r_step, .ref r_got, .ref r_latest, .ref r_begun, .ref r_asked, .ref r_again, .ref r_waitsFor, .ref r_since, .int m_clock, .ref r_wantCount, .ref r_want, .ref r_sendCount, .ref r_send, .ref r_owner, .ref r_value, .ref r_there, .ref r_lost, .int m_losing, .int m_changes, .ref r_changedBy, .ref r_changed, .ref r_before, .int m_logged, .ref r_log]))] s.heap := hP
  have hl := lv_entry ([.ref y, .int w]) (n := 2) (Nat.le_of_ble_eq_true rfl)
  rw [lg_entry_eq]
  generalize (lg_sl ([.ref y, .int w]) ++ List.replicate (2 - (lg_sl ([.ref y, .int w])).length) Slot.unset).toArray = ls at hl ⊢
  have hl : lv_has ls 2 [(0, .ref y), (1, .int w)] := hl
  refine lv_aload_n hx hb dX6_again_0 rfl (lv_at hl 0 rfl) ?_
  refine lv_iconst (v := 0) hx hb dX6_again_1 (by decide) ?_
  refine va_put (D := (dC, dI)) (ci := 6) (v := .int 0) (ty := .int) (C := RX6) (T := TX6) (N := 29) hx hb hts iX6_again_X6 tyX6 tyX6_ok nmX6 hown hKK.1 hP hD hS 0 rfl rfl 0 (by decide) (hts (.fieldLink RX6 80 "LendThreadsModel" "thrown" "I") (by decide +kernel)) (fun _ h9 => h9) rfl (by decide +kernel) rfl rfl (Nat.le_of_ble_eq_true rfl) dX6_again_2 (fun H locs hP hD hS => ?_)
  have hP : va_P (dC, dI) vwCl [(y, .inr (6, [.int 0, .int 0, .ref r_steps, .ref r_failsAt, .ref r_state, .ref r_step, .ref r_got, .ref r_latest, .ref r_begun, .ref r_asked, .ref r_again, .ref r_waitsFor, .ref r_since, .int m_clock, .ref r_wantCount, .ref r_want, .ref r_sendCount, .ref r_send, .ref r_owner, .ref r_value, .ref r_there, .ref r_lost, .int m_losing, .int m_changes, .ref r_changedBy, .ref r_changed, .ref r_before, .int m_logged, .ref r_log]))] H := hP
  have hD : va_D A [(y, .inr (6, [.int 0, .int 0, .ref r_steps, .ref r_failsAt, .ref r_state, .ref r_step, .ref r_got, .ref r_latest, .ref r_begun, .ref r_asked, .ref r_again, .ref r_waitsFor, .ref r_since, .int m_clock, .ref r_wantCount, .ref r_want, .ref r_sendCount, .ref r_send, .ref r_owner, .ref r_value, .ref r_there, .ref r_lost, .int m_losing, .int m_changes, .ref r_changedBy, .ref r_changed, .ref r_before, .int m_logged, .ref r_log]))] := hD
  refine lv_aload_n hx hb dX6_again_5 rfl (lv_at hl 0 rfl) ?_
  refine lv_iload_n hx hb dX6_again_6 rfl (lv_at hl 1 rfl) ?_
  refine vp_callSi (va_Run.run (va_runV (As := [.int w]) (rest := []) ⟨hx, hb, hml, hown, hts⟩ (c_misWork0 l dC dI cI y r_steps r_failsAt r_state r_step r_got r_latest r_begun r_asked r_again r_waitsFor r_since r_wantCount r_want r_sendCount r_send r_owner r_value r_there r_lost r_changedBy r_changed r_before r_log 0 m_clock m_losing m_changes m_logged w) (cwV 1 hts gX6_again_X6_isWork rfl rfl rfl (by decide +kernel) ⟨Nat.le_of_ble_eq_true rfl, Nat.le_of_ble_eq_true rfl⟩) (rP_preV hKK (hP.sub (ws' := [(y, .inr (6, [.int 0, .int 0, .ref r_steps, .ref r_failsAt, .ref r_state, .ref r_step, .ref r_got, .ref r_latest, .ref r_begun, .ref r_asked, .ref r_again, .ref r_waitsFor, .ref r_since, .int m_clock, .ref r_wantCount, .ref r_want, .ref r_sendCount, .ref r_send, .ref r_owner, .ref r_value, .ref r_there, .ref r_lost, .int m_losing, .int m_changes, .ref r_changedBy, .ref r_changed, .ref r_before, .int m_logged, .ref r_log]))]) [0] rfl) (va_recv hKK.1 hP (ci := 6) (q0 := 0) rfl rfl)) rfl rfl hl.1 rfl (lv_room (Nat.le_of_ble_eq_true rfl)) dX6_again_7 ⟨(show 0 + 0 ≤ 0 by omega), (show 0 + 0 ≤ 0 by omega)⟩)) (fun r_1 hr_1 => ?_)
  obtain rfl : r_1 = 0 := hr_1
  refine lv_if_ne (tgt := 15) hx hb dX6_again_10 (by decide) (fun c_2 => ?_) (fun c_2 => ?_)
  · exact absurd c_2 (by decide)
  · refine lv_iconst (v := (-1)) hx hb dX6_again_13 (by decide) ?_
    refine W.widen (k := 0) (n := 0) (by omega) (by omega) ?_
    have hP9 := hP.sub (ws' := []) [] rfl
    have hD9 := hD.sub (ws' := []) [] (by decide) rfl
    exact W.iret (v := (-1)) hx hb hr (fun t ht hW => ⟨⟨(-1), (), rfl, rfl, by rw [ht]; exact hP9, hD9⟩, hS.F ht⟩) hS.2.2 dX6_again_14
theorem iX6_state_X6 : ∀ w ∈ u_ws RX6 TX6 29, w ∈ wsX6_state := by decide +kernel
set_option maxHeartbeats 4000000 in
set_option maxRecDepth 100000 in
/-- state, no works -/
theorem c_mstate0 (l : Launch) (dC : Nat → ClassId) (dI : Nat → Nat → Nat) (cI : ClassId) (sz : Nat) (y r_steps r_failsAt r_state r_step r_got r_latest r_begun r_asked r_again r_waitsFor r_since r_wantCount r_want r_sendCount r_send r_owner r_value r_there r_lost r_changedBy r_changed r_before r_log : Nat) (m_thrown m_clock m_losing m_changes m_logged : Int32) (w b : Int32) : Met l yX6_state wsX6_state ({ frames := 3, cells := 0, slots := 0, locals := 70 }) (uP dC dI cI [.ref y, .int w, .int b] [(y, .inr (6, [.int m_thrown, .int 0, .ref r_steps, .ref r_failsAt, .ref r_state, .ref r_step, .ref r_got, .ref r_latest, .ref r_begun, .ref r_asked, .ref r_again, .ref r_waitsFor, .ref r_since, .int m_clock, .ref r_wantCount, .ref r_want, .ref r_sendCount, .ref r_send, .ref r_owner, .ref r_value, .ref r_there, .ref r_lost, .int m_losing, .int m_changes, .ref r_changedBy, .ref r_changed, .ref r_before, .int m_logged, .ref r_log]))] sz) (va_Qi (fun r _ => r = -1) (fun (u : Unit) t => uB dC dI (va_A [(y, .inr (6, [.int m_thrown, .int 0, .ref r_steps, .ref r_failsAt, .ref r_state, .ref r_step, .ref r_got, .ref r_latest, .ref r_begun, .ref r_asked, .ref r_again, .ref r_waitsFor, .ref r_since, .int m_clock, .ref r_wantCount, .ref r_want, .ref r_sendCount, .ref r_send, .ref r_owner, .ref r_value, .ref r_there, .ref r_lost, .int m_losing, .int m_changes, .ref r_changedBy, .ref r_changed, .ref r_before, .int m_logged, .ref r_log]))] sz) [] t) (va_A [(y, .inr (6, [.int m_thrown, .int 0, .ref r_steps, .ref r_failsAt, .ref r_state, .ref r_step, .ref r_got, .ref r_latest, .ref r_begun, .ref r_asked, .ref r_again, .ref r_waitsFor, .ref r_since, .int m_clock, .ref r_wantCount, .ref r_want, .ref r_sendCount, .ref r_send, .ref r_owner, .ref r_value, .ref r_there, .ref r_lost, .int m_losing, .int m_changes, .ref r_changedBy, .ref r_changed, .ref r_before, .int m_logged, .ref r_log]))] sz)) 0 0 (va_A [(y, .inr (6, [.int m_thrown, .int 0, .ref r_steps, .ref r_failsAt, .ref r_state, .ref r_step, .ref r_got, .ref r_latest, .ref r_begun, .ref r_asked, .ref r_again, .ref r_waitsFor, .ref r_since, .int m_clock, .ref r_wantCount, .ref r_want, .ref r_sendCount, .ref r_send, .ref r_owner, .ref r_value, .ref r_there, .ref r_lost, .int m_losing, .int m_changes, .ref r_changedBy, .ref r_changed, .ref r_before, .int m_logged, .ref r_log]))] sz) := by
  refine Met.ofW (cc := cX6_state) (maxL := 5) (ret := (some .int)) (by decide) rfl ?_
  intro p e s m args below meth c s₁ B hml hv
  obtain ⟨rfl, hsz, hP, hKK, hD0⟩ := hv
  have hx := B.exec
  have hb := B.bytes
  have hr := B.returns
  have hts := atoms_spec (ws := wsX6_state) B.pre
  have hown : s.vm.findClass RX6 = some m.cls := findClass_of_methodNamed B.named
  have hlocks := B.notSynchronized
  subst hsz
  have hD := hD0.self (sz := s.heap.size)
  generalize hAe : va_A [(y, .inr (6, [.int m_thrown, .int 0, .ref r_steps, .ref r_failsAt, .ref r_state, .ref r_step, .ref r_got, .ref r_latest, .ref r_begun, .ref r_asked, .ref r_again, .ref r_waitsFor, .ref r_since, .int m_clock, .ref r_wantCount, .ref r_want, .ref r_sendCount, .ref r_send, .ref r_owner, .ref r_value, .ref r_there, .ref r_lost, .int m_losing, .int m_changes, .ref r_changedBy, .ref r_changed, .ref r_before, .int m_logged, .ref r_log]))] s.heap.size = A at hD ⊢
  have hA : ∀ q : Nat, s.heap.size ≤ q → A q := fun q h => by rw [← hAe]; exact Or.inr h
  have hS : va_S A s.heap s.heap [] := va_S.rf
  have hP : va_P (dC, dI) vwCl [(y, .inr (6, [.int m_thrown, .int 0, .ref r_steps, .ref r_failsAt, .ref r_state, .ref r_step, .ref r_got, .ref r_latest, .ref r_begun, .ref r_asked, .ref r_again, .ref r_waitsFor, .ref r_since, .int m_clock, .ref r_wantCount, .ref r_want, .ref r_sendCount, .ref r_send, .ref r_owner, .ref r_value, .ref r_there, .ref r_lost, .int m_losing, .int m_changes, .ref r_changedBy, .ref r_changed, .ref r_before, .int m_logged, .ref r_log]))] s.heap := hP
  have hl := lv_entry ([.ref y, .int w, .int b]) (n := 5) (Nat.le_of_ble_eq_true rfl)
  rw [lg_entry_eq]
  generalize (lg_sl ([.ref y, .int w, .int b]) ++ List.replicate (5 - (lg_sl ([.ref y, .int w, .int b])).length) Slot.unset).toArray = ls at hl ⊢
  have hl : lv_has ls 5 [(0, .ref y), (1, .int w), (2, .int b)] := hl
  refine lv_aload_n hx hb dX6_state_0 rfl (lv_at hl 0 rfl) ?_
  refine lv_iconst (v := 0) hx hb dX6_state_1 (by decide) ?_
  refine va_put (D := (dC, dI)) (ci := 6) (v := .int 0) (ty := .int) (C := RX6) (T := TX6) (N := 29) hx hb hts iX6_state_X6 tyX6 tyX6_ok nmX6 hown hKK.1 hP hD hS 0 rfl rfl 0 (by decide) (hts (.fieldLink RX6 80 "LendThreadsModel" "thrown" "I") (by decide +kernel)) (fun _ h9 => h9) rfl (by decide +kernel) rfl rfl (Nat.le_of_ble_eq_true rfl) dX6_state_2 (fun H locs hP hD hS => ?_)
  have hP : va_P (dC, dI) vwCl [(y, .inr (6, [.int 0, .int 0, .ref r_steps, .ref r_failsAt, .ref r_state, .ref r_step, .ref r_got, .ref r_latest, .ref r_begun, .ref r_asked, .ref r_again, .ref r_waitsFor, .ref r_since, .int m_clock, .ref r_wantCount, .ref r_want, .ref r_sendCount, .ref r_send, .ref r_owner, .ref r_value, .ref r_there, .ref r_lost, .int m_losing, .int m_changes, .ref r_changedBy, .ref r_changed, .ref r_before, .int m_logged, .ref r_log]))] H := hP
  have hD : va_D A [(y, .inr (6, [.int 0, .int 0, .ref r_steps, .ref r_failsAt, .ref r_state, .ref r_step, .ref r_got, .ref r_latest, .ref r_begun, .ref r_asked, .ref r_again, .ref r_waitsFor, .ref r_since, .int m_clock, .ref r_wantCount, .ref r_want, .ref r_sendCount, .ref r_send, .ref r_owner, .ref r_value, .ref r_there, .ref r_lost, .int m_losing, .int m_changes, .ref r_changedBy, .ref r_changed, .ref r_before, .int m_logged, .ref r_log]))] := hD
  refine lv_aload_n hx hb dX6_state_5 rfl (lv_at hl 0 rfl) ?_
  refine lv_iload_n hx hb dX6_state_6 rfl (lv_at hl 1 rfl) ?_
  refine vp_callSi (va_Run.run (va_runV (As := [.int w]) (rest := []) ⟨hx, hb, hml, hown, hts⟩ (c_misWork0 l dC dI cI y r_steps r_failsAt r_state r_step r_got r_latest r_begun r_asked r_again r_waitsFor r_since r_wantCount r_want r_sendCount r_send r_owner r_value r_there r_lost r_changedBy r_changed r_before r_log 0 m_clock m_losing m_changes m_logged w) (cwV 1 hts gX6_state_X6_isWork rfl rfl rfl (by decide +kernel) ⟨Nat.le_of_ble_eq_true rfl, Nat.le_of_ble_eq_true rfl⟩) (rP_preV hKK (hP.sub (ws' := [(y, .inr (6, [.int 0, .int 0, .ref r_steps, .ref r_failsAt, .ref r_state, .ref r_step, .ref r_got, .ref r_latest, .ref r_begun, .ref r_asked, .ref r_again, .ref r_waitsFor, .ref r_since, .int m_clock, .ref r_wantCount, .ref r_want, .ref r_sendCount, .ref r_send, .ref r_owner, .ref r_value, .ref r_there, .ref r_lost, .int m_losing, .int m_changes, .ref r_changedBy, .ref r_changed, .ref r_before, .int m_logged, .ref r_log]))]) [0] rfl) (va_recv hKK.1 hP (ci := 6) (q0 := 0) rfl rfl)) rfl rfl hl.1 rfl (lv_room (Nat.le_of_ble_eq_true rfl)) dX6_state_7 ⟨(show 0 + 0 ≤ 0 by omega), (show 0 + 0 ≤ 0 by omega)⟩)) (fun r_1 hr_1 => ?_)
  obtain rfl : r_1 = 0 := hr_1
  refine lv_if_ne (tgt := 15) hx hb dX6_state_10 (by decide) (fun c_2 => ?_) (fun c_2 => ?_)
  · exact absurd c_2 (by decide)
  · refine lv_iconst (v := (-1)) hx hb dX6_state_13 (by decide) ?_
    refine W.widen (k := 0) (n := 0) (by omega) (by omega) ?_
    have hP9 := hP.sub (ws' := []) [] rfl
    have hD9 := hD.sub (ws' := []) [] (by decide) rfl
    exact W.iret (v := (-1)) hx hb hr (fun t ht hW => ⟨⟨(-1), (), rfl, rfl, by rw [ht]; exact hP9, hD9⟩, hS.F ht⟩) hS.2.2 dX6_state_14
theorem iX6_mail_X6 : ∀ w ∈ u_ws RX6 TX6 29, w ∈ wsX6_mail := by decide +kernel
set_option maxHeartbeats 4000000 in
set_option maxRecDepth 100000 in
/-- mail, no works -/
theorem c_mmail0 (l : Launch) (dC : Nat → ClassId) (dI : Nat → Nat → Nat) (cI : ClassId) (sz : Nat) (y r_steps r_failsAt r_state r_step r_got r_latest r_begun r_asked r_again r_waitsFor r_since r_wantCount r_want r_sendCount r_send r_owner r_value r_there r_lost r_changedBy r_changed r_before r_log : Nat) (m_thrown m_clock m_losing m_changes m_logged : Int32) (w b : Int32) : Met l yX6_mail wsX6_mail ({ frames := 3, cells := 0, slots := 0, locals := 70 }) (uP dC dI cI [.ref y, .int w, .int b] [(y, .inr (6, [.int m_thrown, .int 0, .ref r_steps, .ref r_failsAt, .ref r_state, .ref r_step, .ref r_got, .ref r_latest, .ref r_begun, .ref r_asked, .ref r_again, .ref r_waitsFor, .ref r_since, .int m_clock, .ref r_wantCount, .ref r_want, .ref r_sendCount, .ref r_send, .ref r_owner, .ref r_value, .ref r_there, .ref r_lost, .int m_losing, .int m_changes, .ref r_changedBy, .ref r_changed, .ref r_before, .int m_logged, .ref r_log]))] sz) (va_Qi (fun r _ => r = -2) (fun (u : Unit) t => uB dC dI (va_A [(y, .inr (6, [.int m_thrown, .int 0, .ref r_steps, .ref r_failsAt, .ref r_state, .ref r_step, .ref r_got, .ref r_latest, .ref r_begun, .ref r_asked, .ref r_again, .ref r_waitsFor, .ref r_since, .int m_clock, .ref r_wantCount, .ref r_want, .ref r_sendCount, .ref r_send, .ref r_owner, .ref r_value, .ref r_there, .ref r_lost, .int m_losing, .int m_changes, .ref r_changedBy, .ref r_changed, .ref r_before, .int m_logged, .ref r_log]))] sz) [] t) (va_A [(y, .inr (6, [.int m_thrown, .int 0, .ref r_steps, .ref r_failsAt, .ref r_state, .ref r_step, .ref r_got, .ref r_latest, .ref r_begun, .ref r_asked, .ref r_again, .ref r_waitsFor, .ref r_since, .int m_clock, .ref r_wantCount, .ref r_want, .ref r_sendCount, .ref r_send, .ref r_owner, .ref r_value, .ref r_there, .ref r_lost, .int m_losing, .int m_changes, .ref r_changedBy, .ref r_changed, .ref r_before, .int m_logged, .ref r_log]))] sz)) 0 0 (va_A [(y, .inr (6, [.int m_thrown, .int 0, .ref r_steps, .ref r_failsAt, .ref r_state, .ref r_step, .ref r_got, .ref r_latest, .ref r_begun, .ref r_asked, .ref r_again, .ref r_waitsFor, .ref r_since, .int m_clock, .ref r_wantCount, .ref r_want, .ref r_sendCount, .ref r_send, .ref r_owner, .ref r_value, .ref r_there, .ref r_lost, .int m_losing, .int m_changes, .ref r_changedBy, .ref r_changed, .ref r_before, .int m_logged, .ref r_log]))] sz) := by
  refine Met.ofW (cc := cX6_mail) (maxL := 3) (ret := (some .int)) (by decide) rfl ?_
  intro p e s m args below meth c s₁ B hml hv
  obtain ⟨rfl, hsz, hP, hKK, hD0⟩ := hv
  have hx := B.exec
  have hb := B.bytes
  have hr := B.returns
  have hts := atoms_spec (ws := wsX6_mail) B.pre
  have hown : s.vm.findClass RX6 = some m.cls := findClass_of_methodNamed B.named
  have hlocks := B.notSynchronized
  subst hsz
  have hD := hD0.self (sz := s.heap.size)
  generalize hAe : va_A [(y, .inr (6, [.int m_thrown, .int 0, .ref r_steps, .ref r_failsAt, .ref r_state, .ref r_step, .ref r_got, .ref r_latest, .ref r_begun, .ref r_asked, .ref r_again, .ref r_waitsFor, .ref r_since, .int m_clock, .ref r_wantCount, .ref r_want, .ref r_sendCount, .ref r_send, .ref r_owner, .ref r_value, .ref r_there, .ref r_lost, .int m_losing, .int m_changes, .ref r_changedBy, .ref r_changed, .ref r_before, .int m_logged, .ref r_log]))] s.heap.size = A at hD ⊢
  have hA : ∀ q : Nat, s.heap.size ≤ q → A q := fun q h => by rw [← hAe]; exact Or.inr h
  have hS : va_S A s.heap s.heap [] := va_S.rf
  have hP : va_P (dC, dI) vwCl [(y, .inr (6, [.int m_thrown, .int 0, .ref r_steps, .ref r_failsAt, .ref r_state, .ref r_step, .ref r_got, .ref r_latest, .ref r_begun, .ref r_asked, .ref r_again, .ref r_waitsFor, .ref r_since, .int m_clock, .ref r_wantCount, .ref r_want, .ref r_sendCount, .ref r_send, .ref r_owner, .ref r_value, .ref r_there, .ref r_lost, .int m_losing, .int m_changes, .ref r_changedBy, .ref r_changed, .ref r_before, .int m_logged, .ref r_log]))] s.heap := hP
  have hl := lv_entry ([.ref y, .int w, .int b]) (n := 3) (Nat.le_of_ble_eq_true rfl)
  rw [lg_entry_eq]
  generalize (lg_sl ([.ref y, .int w, .int b]) ++ List.replicate (3 - (lg_sl ([.ref y, .int w, .int b])).length) Slot.unset).toArray = ls at hl ⊢
  have hl : lv_has ls 3 [(0, .ref y), (1, .int w), (2, .int b)] := hl
  refine lv_aload_n hx hb dX6_mail_0 rfl (lv_at hl 0 rfl) ?_
  refine lv_iconst (v := 0) hx hb dX6_mail_1 (by decide) ?_
  refine va_put (D := (dC, dI)) (ci := 6) (v := .int 0) (ty := .int) (C := RX6) (T := TX6) (N := 29) hx hb hts iX6_mail_X6 tyX6 tyX6_ok nmX6 hown hKK.1 hP hD hS 0 rfl rfl 0 (by decide) (hts (.fieldLink RX6 80 "LendThreadsModel" "thrown" "I") (by decide +kernel)) (fun _ h9 => h9) rfl (by decide +kernel) rfl rfl (Nat.le_of_ble_eq_true rfl) dX6_mail_2 (fun H locs hP hD hS => ?_)
  have hP : va_P (dC, dI) vwCl [(y, .inr (6, [.int 0, .int 0, .ref r_steps, .ref r_failsAt, .ref r_state, .ref r_step, .ref r_got, .ref r_latest, .ref r_begun, .ref r_asked, .ref r_again, .ref r_waitsFor, .ref r_since, .int m_clock, .ref r_wantCount, .ref r_want, .ref r_sendCount, .ref r_send, .ref r_owner, .ref r_value, .ref r_there, .ref r_lost, .int m_losing, .int m_changes, .ref r_changedBy, .ref r_changed, .ref r_before, .int m_logged, .ref r_log]))] H := hP
  have hD : va_D A [(y, .inr (6, [.int 0, .int 0, .ref r_steps, .ref r_failsAt, .ref r_state, .ref r_step, .ref r_got, .ref r_latest, .ref r_begun, .ref r_asked, .ref r_again, .ref r_waitsFor, .ref r_since, .int m_clock, .ref r_wantCount, .ref r_want, .ref r_sendCount, .ref r_send, .ref r_owner, .ref r_value, .ref r_there, .ref r_lost, .int m_losing, .int m_changes, .ref r_changedBy, .ref r_changed, .ref r_before, .int m_logged, .ref r_log]))] := hD
  refine lv_aload_n hx hb dX6_mail_5 rfl (lv_at hl 0 rfl) ?_
  refine lv_iload_n hx hb dX6_mail_6 rfl (lv_at hl 1 rfl) ?_
  refine vp_callSi (va_Run.run (va_runV (As := [.int w]) (rest := []) ⟨hx, hb, hml, hown, hts⟩ (c_misWork0 l dC dI cI y r_steps r_failsAt r_state r_step r_got r_latest r_begun r_asked r_again r_waitsFor r_since r_wantCount r_want r_sendCount r_send r_owner r_value r_there r_lost r_changedBy r_changed r_before r_log 0 m_clock m_losing m_changes m_logged w) (cwV 1 hts gX6_mail_X6_isWork rfl rfl rfl (by decide +kernel) ⟨Nat.le_of_ble_eq_true rfl, Nat.le_of_ble_eq_true rfl⟩) (rP_preV hKK (hP.sub (ws' := [(y, .inr (6, [.int 0, .int 0, .ref r_steps, .ref r_failsAt, .ref r_state, .ref r_step, .ref r_got, .ref r_latest, .ref r_begun, .ref r_asked, .ref r_again, .ref r_waitsFor, .ref r_since, .int m_clock, .ref r_wantCount, .ref r_want, .ref r_sendCount, .ref r_send, .ref r_owner, .ref r_value, .ref r_there, .ref r_lost, .int m_losing, .int m_changes, .ref r_changedBy, .ref r_changed, .ref r_before, .int m_logged, .ref r_log]))]) [0] rfl) (va_recv hKK.1 hP (ci := 6) (q0 := 0) rfl rfl)) rfl rfl hl.1 rfl (lv_room (Nat.le_of_ble_eq_true rfl)) dX6_mail_7 ⟨(show 0 + 0 ≤ 0 by omega), (show 0 + 0 ≤ 0 by omega)⟩)) (fun r_1 hr_1 => ?_)
  obtain rfl : r_1 = 0 := hr_1
  refine lv_if_eq (tgt := 35) hx hb dX6_mail_10 (by decide) (fun c_2 => ?_) (fun c_2 => ?_)
  · refine lv_bipush (v := (-2)) hx hb dX6_mail_35 (by decide) ?_
    refine W.widen (k := 0) (n := 0) (by omega) (by omega) ?_
    have hP9 := hP.sub (ws' := []) [] rfl
    have hD9 := hD.sub (ws' := []) [] (by decide) rfl
    exact W.iret (v := (-2)) hx hb hr (fun t ht hW => ⟨⟨(-2), (), rfl, rfl, by rw [ht]; exact hP9, hD9⟩, hS.F ht⟩) hS.2.2 dX6_mail_37
  · exact absurd c_2 (by decide)
theorem iX6_run_X6 : ∀ w ∈ u_ws RX6 TX6 29, w ∈ wsX6_run := by decide +kernel
set_option maxHeartbeats 4000000 in
set_option maxRecDepth 100000 in
/-- run, no works -/
theorem c_mrun0 (l : Launch) (dC : Nat → ClassId) (dI : Nat → Nat → Nat) (cI : ClassId) (sz : Nat) (y r_steps r_failsAt r_state r_step r_got r_latest r_begun r_asked r_again r_waitsFor r_since r_wantCount r_want r_sendCount r_send r_owner r_value r_there r_lost r_changedBy r_changed r_before r_log : Nat) (m_thrown m_clock m_losing m_changes m_logged : Int32) : Met l yX6_run wsX6_run ({ frames := 0, cells := 0, slots := 0, locals := 0 }) (uP dC dI cI [.ref y] [(y, .inr (6, [.int m_thrown, .int 0, .ref r_steps, .ref r_failsAt, .ref r_state, .ref r_step, .ref r_got, .ref r_latest, .ref r_begun, .ref r_asked, .ref r_again, .ref r_waitsFor, .ref r_since, .int m_clock, .ref r_wantCount, .ref r_want, .ref r_sendCount, .ref r_send, .ref r_owner, .ref r_value, .ref r_there, .ref r_lost, .int m_losing, .int m_changes, .ref r_changedBy, .ref r_changed, .ref r_before, .int m_logged, .ref r_log]))] sz) (va_Qi (fun r _ => r = 0) (fun (u : Unit) t => uB dC dI (va_A [(y, .inr (6, [.int m_thrown, .int 0, .ref r_steps, .ref r_failsAt, .ref r_state, .ref r_step, .ref r_got, .ref r_latest, .ref r_begun, .ref r_asked, .ref r_again, .ref r_waitsFor, .ref r_since, .int m_clock, .ref r_wantCount, .ref r_want, .ref r_sendCount, .ref r_send, .ref r_owner, .ref r_value, .ref r_there, .ref r_lost, .int m_losing, .int m_changes, .ref r_changedBy, .ref r_changed, .ref r_before, .int m_logged, .ref r_log]))] sz) [] t) (va_A [(y, .inr (6, [.int m_thrown, .int 0, .ref r_steps, .ref r_failsAt, .ref r_state, .ref r_step, .ref r_got, .ref r_latest, .ref r_begun, .ref r_asked, .ref r_again, .ref r_waitsFor, .ref r_since, .int m_clock, .ref r_wantCount, .ref r_want, .ref r_sendCount, .ref r_send, .ref r_owner, .ref r_value, .ref r_there, .ref r_lost, .int m_losing, .int m_changes, .ref r_changedBy, .ref r_changed, .ref r_before, .int m_logged, .ref r_log]))] sz)) 0 0 (va_A [(y, .inr (6, [.int m_thrown, .int 0, .ref r_steps, .ref r_failsAt, .ref r_state, .ref r_step, .ref r_got, .ref r_latest, .ref r_begun, .ref r_asked, .ref r_again, .ref r_waitsFor, .ref r_since, .int m_clock, .ref r_wantCount, .ref r_want, .ref r_sendCount, .ref r_send, .ref r_owner, .ref r_value, .ref r_there, .ref r_lost, .int m_losing, .int m_changes, .ref r_changedBy, .ref r_changed, .ref r_before, .int m_logged, .ref r_log]))] sz) := by
  refine Met.ofW (cc := cX6_run) (maxL := 5) (ret := (some .int)) (by decide) rfl ?_
  intro p e s m args below meth c s₁ B hml hv
  obtain ⟨rfl, hsz, hP, hKK, hD0⟩ := hv
  have hx := B.exec
  have hb := B.bytes
  have hr := B.returns
  have hts := atoms_spec (ws := wsX6_run) B.pre
  have hown : s.vm.findClass RX6 = some m.cls := findClass_of_methodNamed B.named
  have hlocks := B.notSynchronized
  subst hsz
  have hD := hD0.self (sz := s.heap.size)
  generalize hAe : va_A [(y, .inr (6, [.int m_thrown, .int 0, .ref r_steps, .ref r_failsAt, .ref r_state, .ref r_step, .ref r_got, .ref r_latest, .ref r_begun, .ref r_asked, .ref r_again, .ref r_waitsFor, .ref r_since, .int m_clock, .ref r_wantCount, .ref r_want, .ref r_sendCount, .ref r_send, .ref r_owner, .ref r_value, .ref r_there, .ref r_lost, .int m_losing, .int m_changes, .ref r_changedBy, .ref r_changed, .ref r_before, .int m_logged, .ref r_log]))] s.heap.size = A at hD ⊢
  have hA : ∀ q : Nat, s.heap.size ≤ q → A q := fun q h => by rw [← hAe]; exact Or.inr h
  have hS : va_S A s.heap s.heap [] := va_S.rf
  have hP : va_P (dC, dI) vwCl [(y, .inr (6, [.int m_thrown, .int 0, .ref r_steps, .ref r_failsAt, .ref r_state, .ref r_step, .ref r_got, .ref r_latest, .ref r_begun, .ref r_asked, .ref r_again, .ref r_waitsFor, .ref r_since, .int m_clock, .ref r_wantCount, .ref r_want, .ref r_sendCount, .ref r_send, .ref r_owner, .ref r_value, .ref r_there, .ref r_lost, .int m_losing, .int m_changes, .ref r_changedBy, .ref r_changed, .ref r_before, .int m_logged, .ref r_log]))] s.heap := hP
  have hl := lv_entry ([.ref y]) (n := 5) (Nat.le_of_ble_eq_true rfl)
  rw [lg_entry_eq]
  generalize (lg_sl ([.ref y]) ++ List.replicate (5 - (lg_sl ([.ref y])).length) Slot.unset).toArray = ls at hl ⊢
  have hl : lv_has ls 5 [(0, .ref y)] := hl
  refine lv_aload_n hx hb dX6_run_0 rfl (lv_at hl 0 rfl) ?_
  refine lv_iconst (v := 0) hx hb dX6_run_1 (by decide) ?_
  refine va_put (D := (dC, dI)) (ci := 6) (v := .int 0) (ty := .int) (C := RX6) (T := TX6) (N := 29) hx hb hts iX6_run_X6 tyX6 tyX6_ok nmX6 hown hKK.1 hP hD hS 0 rfl rfl 0 (by decide) (hts (.fieldLink RX6 80 "LendThreadsModel" "thrown" "I") (by decide +kernel)) (fun _ h9 => h9) rfl (by decide +kernel) rfl rfl (Nat.le_of_ble_eq_true rfl) dX6_run_2 (fun H locs hP hD hS => ?_)
  have hP : va_P (dC, dI) vwCl [(y, .inr (6, [.int 0, .int 0, .ref r_steps, .ref r_failsAt, .ref r_state, .ref r_step, .ref r_got, .ref r_latest, .ref r_begun, .ref r_asked, .ref r_again, .ref r_waitsFor, .ref r_since, .int m_clock, .ref r_wantCount, .ref r_want, .ref r_sendCount, .ref r_send, .ref r_owner, .ref r_value, .ref r_there, .ref r_lost, .int m_losing, .int m_changes, .ref r_changedBy, .ref r_changed, .ref r_before, .int m_logged, .ref r_log]))] H := hP
  have hD : va_D A [(y, .inr (6, [.int 0, .int 0, .ref r_steps, .ref r_failsAt, .ref r_state, .ref r_step, .ref r_got, .ref r_latest, .ref r_begun, .ref r_asked, .ref r_again, .ref r_waitsFor, .ref r_since, .int m_clock, .ref r_wantCount, .ref r_want, .ref r_sendCount, .ref r_send, .ref r_owner, .ref r_value, .ref r_there, .ref r_lost, .int m_losing, .int m_changes, .ref r_changedBy, .ref r_changed, .ref r_before, .int m_logged, .ref r_log]))] := hD
  refine lv_iconst (v := 0) hx hb dX6_run_5 (by decide) ?_
  refine lv_istore_n (lv' := [(1, .int 0), (0, .ref y)]) hx hb dX6_run_6 rfl hl (by decide) rfl (fun ls hl => ?_)
  refine lv_iconst (v := 1) hx hb dX6_run_7 (by decide) ?_
  refine lv_istore_n (lv' := [(2, .int 1), (1, .int 0), (0, .ref y)]) hx hb dX6_run_8 rfl hl (by decide) rfl (fun ls hl => ?_)
  refine lv_iload_n hx hb dX6_run_9 rfl (lv_at hl 0 rfl) ?_
  refine lv_if_eq (tgt := 82) hx hb dX6_run_10 (by decide) (fun c_1 => ?_) (fun c_1 => ?_)
  · exact absurd c_1 (by decide)
  · refine lv_iconst (v := 0) hx hb dX6_run_13 (by decide) ?_
    refine lv_istore_n (lv' := [(2, .int 0), (1, .int 0), (0, .ref y)]) hx hb dX6_run_14 rfl hl (by decide) rfl (fun ls hl => ?_)
    refine lv_iconst (v := 0) hx hb dX6_run_15 (by decide) ?_
    refine lv_istore_n (lv' := [(3, .int 0), (2, .int 0), (1, .int 0), (0, .ref y)]) hx hb dX6_run_16 rfl hl (by decide) rfl (fun ls hl => ?_)
    refine lv_iload_n hx hb dX6_run_17 rfl (lv_at hl 0 rfl) ?_
    refine lv_aload_n hx hb dX6_run_18 rfl (lv_at hl 3 rfl) ?_
    refine va_get (D := (dC, dI)) (ci := 6) (v := .int 0) (C := RX6) (T := TX6) (N := 29) hx hb hts iX6_run_X6 hown hKK.1 hP 0 rfl rfl 1 (by decide) (hts (.fieldLink RX6 84 "LendThreadsModel" "works" "I") (by decide +kernel)) (fun _ h9 => h9) rfl dX6_run_19 ?_
    refine lv_icmp_ge (tgt := 79) hx hb dX6_run_22 (by decide) (fun c_2 => ?_) (fun c_2 => ?_)
    · refine lv_goto (tgt := 9) hx hb dX6_run_79 (by decide) ?_
      refine lv_iload_n hx hb dX6_run_9 rfl (lv_at hl 1 rfl) ?_
      refine lv_if_eq (tgt := 82) hx hb dX6_run_10 (by decide) (fun c_3 => ?_) (fun c_3 => ?_)
      · refine lv_iload_n hx hb dX6_run_82 rfl (lv_at hl 2 rfl) ?_
        refine W.widen (k := 0) (n := 0) (by omega) (by omega) ?_
        have hP9 := hP.sub (ws' := []) [] rfl
        have hD9 := hD.sub (ws' := []) [] (by decide) rfl
        exact W.iret (v := 0) hx hb hr (fun t ht hW => ⟨⟨0, (), rfl, rfl, by rw [ht]; exact hP9, hD9⟩, hS.F ht⟩) hS.2.2 dX6_run_83
      · exact absurd c_3 (by decide)
    · exact absurd c_2 (by decide)
theorem iX6_ring_X6 : ∀ w ∈ u_ws RX6 TX6 29, w ∈ wsX6_ring := by decide +kernel
set_option maxHeartbeats 4000000 in
set_option maxRecDepth 100000 in
/-- ring, no works -/
theorem c_mring0 (l : Launch) (dC : Nat → ClassId) (dI : Nat → Nat → Nat) (cI : ClassId) (sz : Nat) (y r_steps r_failsAt r_state r_step r_got r_latest r_begun r_asked r_again r_waitsFor r_since r_wantCount r_want r_sendCount r_send r_owner r_value r_there r_lost r_changedBy r_changed r_before r_log : Nat) (m_thrown m_clock m_losing m_changes m_logged : Int32) : Met l yX6_ring wsX6_ring ({ frames := 0, cells := 0, slots := 0, locals := 0 }) (uP dC dI cI [.ref y] [(y, .inr (6, [.int m_thrown, .int 0, .ref r_steps, .ref r_failsAt, .ref r_state, .ref r_step, .ref r_got, .ref r_latest, .ref r_begun, .ref r_asked, .ref r_again, .ref r_waitsFor, .ref r_since, .int m_clock, .ref r_wantCount, .ref r_want, .ref r_sendCount, .ref r_send, .ref r_owner, .ref r_value, .ref r_there, .ref r_lost, .int m_losing, .int m_changes, .ref r_changedBy, .ref r_changed, .ref r_before, .int m_logged, .ref r_log]))] sz) (va_Qi (fun r _ => r = -1) (fun (u : Unit) t => uB dC dI (va_A [(y, .inr (6, [.int m_thrown, .int 0, .ref r_steps, .ref r_failsAt, .ref r_state, .ref r_step, .ref r_got, .ref r_latest, .ref r_begun, .ref r_asked, .ref r_again, .ref r_waitsFor, .ref r_since, .int m_clock, .ref r_wantCount, .ref r_want, .ref r_sendCount, .ref r_send, .ref r_owner, .ref r_value, .ref r_there, .ref r_lost, .int m_losing, .int m_changes, .ref r_changedBy, .ref r_changed, .ref r_before, .int m_logged, .ref r_log]))] sz) [] t) (va_A [(y, .inr (6, [.int m_thrown, .int 0, .ref r_steps, .ref r_failsAt, .ref r_state, .ref r_step, .ref r_got, .ref r_latest, .ref r_begun, .ref r_asked, .ref r_again, .ref r_waitsFor, .ref r_since, .int m_clock, .ref r_wantCount, .ref r_want, .ref r_sendCount, .ref r_send, .ref r_owner, .ref r_value, .ref r_there, .ref r_lost, .int m_losing, .int m_changes, .ref r_changedBy, .ref r_changed, .ref r_before, .int m_logged, .ref r_log]))] sz)) 0 0 (va_A [(y, .inr (6, [.int m_thrown, .int 0, .ref r_steps, .ref r_failsAt, .ref r_state, .ref r_step, .ref r_got, .ref r_latest, .ref r_begun, .ref r_asked, .ref r_again, .ref r_waitsFor, .ref r_since, .int m_clock, .ref r_wantCount, .ref r_want, .ref r_sendCount, .ref r_send, .ref r_owner, .ref r_value, .ref r_there, .ref r_lost, .int m_losing, .int m_changes, .ref r_changedBy, .ref r_changed, .ref r_before, .int m_logged, .ref r_log]))] sz) := by
  refine Met.ofW (cc := cX6_ring) (maxL := 5) (ret := (some .int)) (by decide) rfl ?_
  intro p e s m args below meth c s₁ B hml hv
  obtain ⟨rfl, hsz, hP, hKK, hD0⟩ := hv
  have hx := B.exec
  have hb := B.bytes
  have hr := B.returns
  have hts := atoms_spec (ws := wsX6_ring) B.pre
  have hown : s.vm.findClass RX6 = some m.cls := findClass_of_methodNamed B.named
  have hlocks := B.notSynchronized
  subst hsz
  have hD := hD0.self (sz := s.heap.size)
  generalize hAe : va_A [(y, .inr (6, [.int m_thrown, .int 0, .ref r_steps, .ref r_failsAt, .ref r_state, .ref r_step, .ref r_got, .ref r_latest, .ref r_begun, .ref r_asked, .ref r_again, .ref r_waitsFor, .ref r_since, .int m_clock, .ref r_wantCount, .ref r_want, .ref r_sendCount, .ref r_send, .ref r_owner, .ref r_value, .ref r_there, .ref r_lost, .int m_losing, .int m_changes, .ref r_changedBy, .ref r_changed, .ref r_before, .int m_logged, .ref r_log]))] s.heap.size = A at hD ⊢
  have hA : ∀ q : Nat, s.heap.size ≤ q → A q := fun q h => by rw [← hAe]; exact Or.inr h
  have hS : va_S A s.heap s.heap [] := va_S.rf
  have hP : va_P (dC, dI) vwCl [(y, .inr (6, [.int m_thrown, .int 0, .ref r_steps, .ref r_failsAt, .ref r_state, .ref r_step, .ref r_got, .ref r_latest, .ref r_begun, .ref r_asked, .ref r_again, .ref r_waitsFor, .ref r_since, .int m_clock, .ref r_wantCount, .ref r_want, .ref r_sendCount, .ref r_send, .ref r_owner, .ref r_value, .ref r_there, .ref r_lost, .int m_losing, .int m_changes, .ref r_changedBy, .ref r_changed, .ref r_before, .int m_logged, .ref r_log]))] s.heap := hP
  have hl := lv_entry ([.ref y]) (n := 5) (Nat.le_of_ble_eq_true rfl)
  rw [lg_entry_eq]
  generalize (lg_sl ([.ref y]) ++ List.replicate (5 - (lg_sl ([.ref y])).length) Slot.unset).toArray = ls at hl ⊢
  have hl : lv_has ls 5 [(0, .ref y)] := hl
  refine lv_aload_n hx hb dX6_ring_0 rfl (lv_at hl 0 rfl) ?_
  refine lv_iconst (v := 0) hx hb dX6_ring_1 (by decide) ?_
  refine va_put (D := (dC, dI)) (ci := 6) (v := .int 0) (ty := .int) (C := RX6) (T := TX6) (N := 29) hx hb hts iX6_ring_X6 tyX6 tyX6_ok nmX6 hown hKK.1 hP hD hS 0 rfl rfl 0 (by decide) (hts (.fieldLink RX6 80 "LendThreadsModel" "thrown" "I") (by decide +kernel)) (fun _ h9 => h9) rfl (by decide +kernel) rfl rfl (Nat.le_of_ble_eq_true rfl) dX6_ring_2 (fun H locs hP hD hS => ?_)
  have hP : va_P (dC, dI) vwCl [(y, .inr (6, [.int 0, .int 0, .ref r_steps, .ref r_failsAt, .ref r_state, .ref r_step, .ref r_got, .ref r_latest, .ref r_begun, .ref r_asked, .ref r_again, .ref r_waitsFor, .ref r_since, .int m_clock, .ref r_wantCount, .ref r_want, .ref r_sendCount, .ref r_send, .ref r_owner, .ref r_value, .ref r_there, .ref r_lost, .int m_losing, .int m_changes, .ref r_changedBy, .ref r_changed, .ref r_before, .int m_logged, .ref r_log]))] H := hP
  have hD : va_D A [(y, .inr (6, [.int 0, .int 0, .ref r_steps, .ref r_failsAt, .ref r_state, .ref r_step, .ref r_got, .ref r_latest, .ref r_begun, .ref r_asked, .ref r_again, .ref r_waitsFor, .ref r_since, .int m_clock, .ref r_wantCount, .ref r_want, .ref r_sendCount, .ref r_send, .ref r_owner, .ref r_value, .ref r_there, .ref r_lost, .int m_losing, .int m_changes, .ref r_changedBy, .ref r_changed, .ref r_before, .int m_logged, .ref r_log]))] := hD
  refine lv_iconst (v := 0) hx hb dX6_ring_5 (by decide) ?_
  refine lv_istore_n (lv' := [(1, .int 0), (0, .ref y)]) hx hb dX6_ring_6 rfl hl (by decide) rfl (fun ls hl => ?_)
  refine lv_iload_n hx hb dX6_ring_7 rfl (lv_at hl 0 rfl) ?_
  refine lv_aload_n hx hb dX6_ring_8 rfl (lv_at hl 1 rfl) ?_
  refine va_get (D := (dC, dI)) (ci := 6) (v := .int 0) (C := RX6) (T := TX6) (N := 29) hx hb hts iX6_ring_X6 hown hKK.1 hP 0 rfl rfl 1 (by decide) (hts (.fieldLink RX6 84 "LendThreadsModel" "works" "I") (by decide +kernel)) (fun _ h9 => h9) rfl dX6_ring_9 ?_
  refine lv_icmp_ge (tgt := 89) hx hb dX6_ring_12 (by decide) (fun c_1 => ?_) (fun c_1 => ?_)
  · refine lv_iconst (v := (-1)) hx hb dX6_ring_89 (by decide) ?_
    refine W.widen (k := 0) (n := 0) (by omega) (by omega) ?_
    have hP9 := hP.sub (ws' := []) [] rfl
    have hD9 := hD.sub (ws' := []) [] (by decide) rfl
    exact W.iret (v := (-1)) hx hb hr (fun t ht hW => ⟨⟨(-1), (), rfl, rfl, by rw [ht]; exact hP9, hD9⟩, hS.F ht⟩) hS.2.2 dX6_ring_90
  · exact absurd c_1 (by decide)
theorem iX6_close_X6 : ∀ w ∈ u_ws RX6 TX6 29, w ∈ wsX6_close := by decide +kernel
set_option maxHeartbeats 4000000 in
set_option maxRecDepth 100000 in
/-- close, no works -/
theorem c_mclose0 (l : Launch) (dC : Nat → ClassId) (dI : Nat → Nat → Nat) (cI : ClassId) (sz : Nat) (y r_steps r_failsAt r_state r_step r_got r_latest r_begun r_asked r_again r_waitsFor r_since r_wantCount r_want r_sendCount r_send r_owner r_value r_there r_lost r_changedBy r_changed r_before r_log : Nat) (m_thrown m_clock m_losing m_changes m_logged : Int32) : Met l yX6_close wsX6_close ({ frames := 0, cells := 0, slots := 0, locals := 0 }) (uP dC dI cI [.ref y] [(y, .inr (6, [.int m_thrown, .int 0, .ref r_steps, .ref r_failsAt, .ref r_state, .ref r_step, .ref r_got, .ref r_latest, .ref r_begun, .ref r_asked, .ref r_again, .ref r_waitsFor, .ref r_since, .int m_clock, .ref r_wantCount, .ref r_want, .ref r_sendCount, .ref r_send, .ref r_owner, .ref r_value, .ref r_there, .ref r_lost, .int m_losing, .int m_changes, .ref r_changedBy, .ref r_changed, .ref r_before, .int m_logged, .ref r_log]))] sz) (va_Qi (fun r _ => r = 0) (fun (u : Unit) t => uB dC dI (va_A [(y, .inr (6, [.int m_thrown, .int 0, .ref r_steps, .ref r_failsAt, .ref r_state, .ref r_step, .ref r_got, .ref r_latest, .ref r_begun, .ref r_asked, .ref r_again, .ref r_waitsFor, .ref r_since, .int m_clock, .ref r_wantCount, .ref r_want, .ref r_sendCount, .ref r_send, .ref r_owner, .ref r_value, .ref r_there, .ref r_lost, .int m_losing, .int m_changes, .ref r_changedBy, .ref r_changed, .ref r_before, .int m_logged, .ref r_log]))] sz) [] t) (va_A [(y, .inr (6, [.int m_thrown, .int 0, .ref r_steps, .ref r_failsAt, .ref r_state, .ref r_step, .ref r_got, .ref r_latest, .ref r_begun, .ref r_asked, .ref r_again, .ref r_waitsFor, .ref r_since, .int m_clock, .ref r_wantCount, .ref r_want, .ref r_sendCount, .ref r_send, .ref r_owner, .ref r_value, .ref r_there, .ref r_lost, .int m_losing, .int m_changes, .ref r_changedBy, .ref r_changed, .ref r_before, .int m_logged, .ref r_log]))] sz)) 0 0 (va_A [(y, .inr (6, [.int m_thrown, .int 0, .ref r_steps, .ref r_failsAt, .ref r_state, .ref r_step, .ref r_got, .ref r_latest, .ref r_begun, .ref r_asked, .ref r_again, .ref r_waitsFor, .ref r_since, .int m_clock, .ref r_wantCount, .ref r_want, .ref r_sendCount, .ref r_send, .ref r_owner, .ref r_value, .ref r_there, .ref r_lost, .int m_losing, .int m_changes, .ref r_changedBy, .ref r_changed, .ref r_before, .int m_logged, .ref r_log]))] sz) := by
  refine Met.ofW (cc := cX6_close) (maxL := 3) (ret := (some .int)) (by decide) rfl ?_
  intro p e s m args below meth c s₁ B hml hv
  obtain ⟨rfl, hsz, hP, hKK, hD0⟩ := hv
  have hx := B.exec
  have hb := B.bytes
  have hr := B.returns
  have hts := atoms_spec (ws := wsX6_close) B.pre
  have hown : s.vm.findClass RX6 = some m.cls := findClass_of_methodNamed B.named
  have hlocks := B.notSynchronized
  subst hsz
  have hD := hD0.self (sz := s.heap.size)
  generalize hAe : va_A [(y, .inr (6, [.int m_thrown, .int 0, .ref r_steps, .ref r_failsAt, .ref r_state, .ref r_step, .ref r_got, .ref r_latest, .ref r_begun, .ref r_asked, .ref r_again, .ref r_waitsFor, .ref r_since, .int m_clock, .ref r_wantCount, .ref r_want, .ref r_sendCount, .ref r_send, .ref r_owner, .ref r_value, .ref r_there, .ref r_lost, .int m_losing, .int m_changes, .ref r_changedBy, .ref r_changed, .ref r_before, .int m_logged, .ref r_log]))] s.heap.size = A at hD ⊢
  have hA : ∀ q : Nat, s.heap.size ≤ q → A q := fun q h => by rw [← hAe]; exact Or.inr h
  have hS : va_S A s.heap s.heap [] := va_S.rf
  have hP : va_P (dC, dI) vwCl [(y, .inr (6, [.int m_thrown, .int 0, .ref r_steps, .ref r_failsAt, .ref r_state, .ref r_step, .ref r_got, .ref r_latest, .ref r_begun, .ref r_asked, .ref r_again, .ref r_waitsFor, .ref r_since, .int m_clock, .ref r_wantCount, .ref r_want, .ref r_sendCount, .ref r_send, .ref r_owner, .ref r_value, .ref r_there, .ref r_lost, .int m_losing, .int m_changes, .ref r_changedBy, .ref r_changed, .ref r_before, .int m_logged, .ref r_log]))] s.heap := hP
  have hl := lv_entry ([.ref y]) (n := 3) (Nat.le_of_ble_eq_true rfl)
  rw [lg_entry_eq]
  generalize (lg_sl ([.ref y]) ++ List.replicate (3 - (lg_sl ([.ref y])).length) Slot.unset).toArray = ls at hl ⊢
  have hl : lv_has ls 3 [(0, .ref y)] := hl
  refine lv_aload_n hx hb dX6_close_0 rfl (lv_at hl 0 rfl) ?_
  refine lv_iconst (v := 0) hx hb dX6_close_1 (by decide) ?_
  refine va_put (D := (dC, dI)) (ci := 6) (v := .int 0) (ty := .int) (C := RX6) (T := TX6) (N := 29) hx hb hts iX6_close_X6 tyX6 tyX6_ok nmX6 hown hKK.1 hP hD hS 0 rfl rfl 0 (by decide) (hts (.fieldLink RX6 80 "LendThreadsModel" "thrown" "I") (by decide +kernel)) (fun _ h9 => h9) rfl (by decide +kernel) rfl rfl (Nat.le_of_ble_eq_true rfl) dX6_close_2 (fun H locs hP hD hS => ?_)
  have hP : va_P (dC, dI) vwCl [(y, .inr (6, [.int 0, .int 0, .ref r_steps, .ref r_failsAt, .ref r_state, .ref r_step, .ref r_got, .ref r_latest, .ref r_begun, .ref r_asked, .ref r_again, .ref r_waitsFor, .ref r_since, .int m_clock, .ref r_wantCount, .ref r_want, .ref r_sendCount, .ref r_send, .ref r_owner, .ref r_value, .ref r_there, .ref r_lost, .int m_losing, .int m_changes, .ref r_changedBy, .ref r_changed, .ref r_before, .int m_logged, .ref r_log]))] H := hP
  have hD : va_D A [(y, .inr (6, [.int 0, .int 0, .ref r_steps, .ref r_failsAt, .ref r_state, .ref r_step, .ref r_got, .ref r_latest, .ref r_begun, .ref r_asked, .ref r_again, .ref r_waitsFor, .ref r_since, .int m_clock, .ref r_wantCount, .ref r_want, .ref r_sendCount, .ref r_send, .ref r_owner, .ref r_value, .ref r_there, .ref r_lost, .int m_losing, .int m_changes, .ref r_changedBy, .ref r_changed, .ref r_before, .int m_logged, .ref r_log]))] := hD
  refine lv_iconst (v := 0) hx hb dX6_close_5 (by decide) ?_
  refine lv_istore_n (lv' := [(1, .int 0), (0, .ref y)]) hx hb dX6_close_6 rfl hl (by decide) rfl (fun ls hl => ?_)
  refine lv_aload_n hx hb dX6_close_7 rfl (lv_at hl 1 rfl) ?_
  refine va_get (D := (dC, dI)) (ci := 6) (v := .int 0) (C := RX6) (T := TX6) (N := 29) hx hb hts iX6_close_X6 hown hKK.1 hP 0 rfl rfl 1 (by decide) (hts (.fieldLink RX6 84 "LendThreadsModel" "works" "I") (by decide +kernel)) (fun _ h9 => h9) rfl dX6_close_8 ?_
  refine lv_iconst (v := 1) hx hb dX6_close_11 (by decide) ?_
  refine lv_isub hx hb dX6_close_12 ?_
  refine lv_topi (fun x_1 ex_1 => ?_)
  obtain rfl : x_1 = (-1) := by rw [ex_1]; decide
  refine lv_istore_n (lv' := [(2, .int (-1)), (1, .int 0), (0, .ref y)]) hx hb dX6_close_13 rfl hl (by decide) rfl (fun ls hl => ?_)
  refine lv_iload_n hx hb dX6_close_14 rfl (lv_at hl 0 rfl) ?_
  refine lv_if_lt (tgt := 45) hx hb dX6_close_15 (by decide) (fun c_2 => ?_) (fun c_2 => ?_)
  · refine lv_iload_n hx hb dX6_close_45 rfl (lv_at hl 1 rfl) ?_
    refine W.widen (k := 0) (n := 0) (by omega) (by omega) ?_
    have hP9 := hP.sub (ws' := []) [] rfl
    have hD9 := hD.sub (ws' := []) [] (by decide) rfl
    exact W.iret (v := 0) hx hb hr (fun t ht hW => ⟨⟨0, (), rfl, rfl, by rw [ht]; exact hP9, hD9⟩, hS.F ht⟩) hS.2.2 dX6_close_46
  · exact absurd c_2 (by decide)
theorem iX6_line_X6 : ∀ w ∈ u_ws RX6 TX6 29, w ∈ wsX6_line := by decide +kernel
set_option maxHeartbeats 4000000 in
set_option maxRecDepth 100000 in
/-- line, no works -/
theorem c_mline0 (l : Launch) (dC : Nat → ClassId) (dI : Nat → Nat → Nat) (cI : ClassId) (sz : Nat) (y r_steps r_failsAt r_state r_step r_got r_latest r_begun r_asked r_again r_waitsFor r_since r_wantCount r_want r_sendCount r_send r_owner r_value r_there r_lost r_changedBy r_changed r_before r_log : Nat) (m_thrown m_clock m_losing m_changes m_logged : Int32) (v i : Int32) : Met l yX6_line wsX6_line ({ frames := 0, cells := 0, slots := 0, locals := 0 }) (uP dC dI cI [.ref y, .int v, .int i] [(y, .inr (6, [.int m_thrown, .int 0, .ref r_steps, .ref r_failsAt, .ref r_state, .ref r_step, .ref r_got, .ref r_latest, .ref r_begun, .ref r_asked, .ref r_again, .ref r_waitsFor, .ref r_since, .int m_clock, .ref r_wantCount, .ref r_want, .ref r_sendCount, .ref r_send, .ref r_owner, .ref r_value, .ref r_there, .ref r_lost, .int m_losing, .int m_changes, .ref r_changedBy, .ref r_changed, .ref r_before, .int m_logged, .ref r_log]))] sz) (va_Qi (fun r _ => r = -1) (fun (u : Unit) t => uB dC dI (va_A [(y, .inr (6, [.int m_thrown, .int 0, .ref r_steps, .ref r_failsAt, .ref r_state, .ref r_step, .ref r_got, .ref r_latest, .ref r_begun, .ref r_asked, .ref r_again, .ref r_waitsFor, .ref r_since, .int m_clock, .ref r_wantCount, .ref r_want, .ref r_sendCount, .ref r_send, .ref r_owner, .ref r_value, .ref r_there, .ref r_lost, .int m_losing, .int m_changes, .ref r_changedBy, .ref r_changed, .ref r_before, .int m_logged, .ref r_log]))] sz) [] t) (va_A [(y, .inr (6, [.int m_thrown, .int 0, .ref r_steps, .ref r_failsAt, .ref r_state, .ref r_step, .ref r_got, .ref r_latest, .ref r_begun, .ref r_asked, .ref r_again, .ref r_waitsFor, .ref r_since, .int m_clock, .ref r_wantCount, .ref r_want, .ref r_sendCount, .ref r_send, .ref r_owner, .ref r_value, .ref r_there, .ref r_lost, .int m_losing, .int m_changes, .ref r_changedBy, .ref r_changed, .ref r_before, .int m_logged, .ref r_log]))] sz)) 0 0 (va_A [(y, .inr (6, [.int m_thrown, .int 0, .ref r_steps, .ref r_failsAt, .ref r_state, .ref r_step, .ref r_got, .ref r_latest, .ref r_begun, .ref r_asked, .ref r_again, .ref r_waitsFor, .ref r_since, .int m_clock, .ref r_wantCount, .ref r_want, .ref r_sendCount, .ref r_send, .ref r_owner, .ref r_value, .ref r_there, .ref r_lost, .int m_losing, .int m_changes, .ref r_changedBy, .ref r_changed, .ref r_before, .int m_logged, .ref r_log]))] sz) := by
  refine Met.ofW (cc := cX6_line) (maxL := 4) (ret := (some .int)) (by decide) rfl ?_
  intro p e s m args below meth c s₁ B hml hv
  obtain ⟨rfl, hsz, hP, hKK, hD0⟩ := hv
  have hx := B.exec
  have hb := B.bytes
  have hr := B.returns
  have hts := atoms_spec (ws := wsX6_line) B.pre
  have hown : s.vm.findClass RX6 = some m.cls := findClass_of_methodNamed B.named
  have hlocks := B.notSynchronized
  subst hsz
  have hD := hD0.self (sz := s.heap.size)
  generalize hAe : va_A [(y, .inr (6, [.int m_thrown, .int 0, .ref r_steps, .ref r_failsAt, .ref r_state, .ref r_step, .ref r_got, .ref r_latest, .ref r_begun, .ref r_asked, .ref r_again, .ref r_waitsFor, .ref r_since, .int m_clock, .ref r_wantCount, .ref r_want, .ref r_sendCount, .ref r_send, .ref r_owner, .ref r_value, .ref r_there, .ref r_lost, .int m_losing, .int m_changes, .ref r_changedBy, .ref r_changed, .ref r_before, .int m_logged, .ref r_log]))] s.heap.size = A at hD ⊢
  have hA : ∀ q : Nat, s.heap.size ≤ q → A q := fun q h => by rw [← hAe]; exact Or.inr h
  have hS : va_S A s.heap s.heap [] := va_S.rf
  have hP : va_P (dC, dI) vwCl [(y, .inr (6, [.int m_thrown, .int 0, .ref r_steps, .ref r_failsAt, .ref r_state, .ref r_step, .ref r_got, .ref r_latest, .ref r_begun, .ref r_asked, .ref r_again, .ref r_waitsFor, .ref r_since, .int m_clock, .ref r_wantCount, .ref r_want, .ref r_sendCount, .ref r_send, .ref r_owner, .ref r_value, .ref r_there, .ref r_lost, .int m_losing, .int m_changes, .ref r_changedBy, .ref r_changed, .ref r_before, .int m_logged, .ref r_log]))] s.heap := hP
  have hl := lv_entry ([.ref y, .int v, .int i]) (n := 4) (Nat.le_of_ble_eq_true rfl)
  rw [lg_entry_eq]
  generalize (lg_sl ([.ref y, .int v, .int i]) ++ List.replicate (4 - (lg_sl ([.ref y, .int v, .int i])).length) Slot.unset).toArray = ls at hl ⊢
  have hl : lv_has ls 4 [(0, .ref y), (1, .int v), (2, .int i)] := hl
  refine lv_aload_n hx hb dX6_line_0 rfl (lv_at hl 0 rfl) ?_
  refine lv_iconst (v := 0) hx hb dX6_line_1 (by decide) ?_
  refine va_put (D := (dC, dI)) (ci := 6) (v := .int 0) (ty := .int) (C := RX6) (T := TX6) (N := 29) hx hb hts iX6_line_X6 tyX6 tyX6_ok nmX6 hown hKK.1 hP hD hS 0 rfl rfl 0 (by decide) (hts (.fieldLink RX6 80 "LendThreadsModel" "thrown" "I") (by decide +kernel)) (fun _ h9 => h9) rfl (by decide +kernel) rfl rfl (Nat.le_of_ble_eq_true rfl) dX6_line_2 (fun H locs hP hD hS => ?_)
  have hP : va_P (dC, dI) vwCl [(y, .inr (6, [.int 0, .int 0, .ref r_steps, .ref r_failsAt, .ref r_state, .ref r_step, .ref r_got, .ref r_latest, .ref r_begun, .ref r_asked, .ref r_again, .ref r_waitsFor, .ref r_since, .int m_clock, .ref r_wantCount, .ref r_want, .ref r_sendCount, .ref r_send, .ref r_owner, .ref r_value, .ref r_there, .ref r_lost, .int m_losing, .int m_changes, .ref r_changedBy, .ref r_changed, .ref r_before, .int m_logged, .ref r_log]))] H := hP
  have hD : va_D A [(y, .inr (6, [.int 0, .int 0, .ref r_steps, .ref r_failsAt, .ref r_state, .ref r_step, .ref r_got, .ref r_latest, .ref r_begun, .ref r_asked, .ref r_again, .ref r_waitsFor, .ref r_since, .int m_clock, .ref r_wantCount, .ref r_want, .ref r_sendCount, .ref r_send, .ref r_owner, .ref r_value, .ref r_there, .ref r_lost, .int m_losing, .int m_changes, .ref r_changedBy, .ref r_changed, .ref r_before, .int m_logged, .ref r_log]))] := hD
  refine lv_iconst (v := 0) hx hb dX6_line_5 (by decide) ?_
  refine lv_istore_n (lv' := [(3, .int 0), (0, .ref y), (1, .int v), (2, .int i)]) hx hb dX6_line_6 rfl hl (by decide) rfl (fun ls hl => ?_)
  refine lv_iload_n hx hb dX6_line_7 rfl (lv_at hl 0 rfl) ?_
  refine lv_aload_n hx hb dX6_line_8 rfl (lv_at hl 1 rfl) ?_
  refine va_get (D := (dC, dI)) (ci := 6) (v := .int 0) (C := RX6) (T := TX6) (N := 29) hx hb hts iX6_line_X6 hown hKK.1 hP 0 rfl rfl 1 (by decide) (hts (.fieldLink RX6 84 "LendThreadsModel" "works" "I") (by decide +kernel)) (fun _ h9 => h9) rfl dX6_line_9 ?_
  refine lv_icmp_ge (tgt := 55) hx hb dX6_line_12 (by decide) (fun c_1 => ?_) (fun c_1 => ?_)
  · refine lv_iconst (v := (-1)) hx hb dX6_line_55 (by decide) ?_
    refine W.widen (k := 0) (n := 0) (by omega) (by omega) ?_
    have hP9 := hP.sub (ws' := []) [] rfl
    have hD9 := hD.sub (ws' := []) [] (by decide) rfl
    exact W.iret (v := (-1)) hx hb hr (fun t ht hW => ⟨⟨(-1), (), rfl, rfl, by rw [ht]; exact hP9, hD9⟩, hS.F ht⟩) hS.2.2 dX6_line_56
  · exact absurd c_1 (by decide)
theorem iX6_log_X6 : ∀ w ∈ u_ws RX6 TX6 29, w ∈ wsX6_log := by decide +kernel
set_option maxHeartbeats 4000000 in
set_option maxRecDepth 100000 in
/-- log, no works -/
theorem c_mlog0 (l : Launch) (dC : Nat → ClassId) (dI : Nat → Nat → Nat) (cI : ClassId) (sz : Nat) (y r_steps r_failsAt r_state r_step r_got r_latest r_begun r_asked r_again r_waitsFor r_since r_wantCount r_want r_sendCount r_send r_owner r_value r_there r_lost r_changedBy r_changed r_before r_log : Nat) (m_thrown m_works m_clock m_losing m_changes : Int32) (v : Int32) : Met l yX6_log wsX6_log ({ frames := 1, cells := 0, slots := 0, locals := 22 }) (uP dC dI cI [.ref y, .int v] [(y, .inr (6, [.int m_thrown, .int m_works, .ref r_steps, .ref r_failsAt, .ref r_state, .ref r_step, .ref r_got, .ref r_latest, .ref r_begun, .ref r_asked, .ref r_again, .ref r_waitsFor, .ref r_since, .int m_clock, .ref r_wantCount, .ref r_want, .ref r_sendCount, .ref r_send, .ref r_owner, .ref r_value, .ref r_there, .ref r_lost, .int m_losing, .int m_changes, .ref r_changedBy, .ref r_changed, .ref r_before, .int 0, .ref r_log]))] sz) (va_Qi (fun r _ => r = -1) (fun (u : Unit) t => uB dC dI (va_A [(y, .inr (6, [.int m_thrown, .int m_works, .ref r_steps, .ref r_failsAt, .ref r_state, .ref r_step, .ref r_got, .ref r_latest, .ref r_begun, .ref r_asked, .ref r_again, .ref r_waitsFor, .ref r_since, .int m_clock, .ref r_wantCount, .ref r_want, .ref r_sendCount, .ref r_send, .ref r_owner, .ref r_value, .ref r_there, .ref r_lost, .int m_losing, .int m_changes, .ref r_changedBy, .ref r_changed, .ref r_before, .int 0, .ref r_log]))] sz) [] t) (va_A [(y, .inr (6, [.int m_thrown, .int m_works, .ref r_steps, .ref r_failsAt, .ref r_state, .ref r_step, .ref r_got, .ref r_latest, .ref r_begun, .ref r_asked, .ref r_again, .ref r_waitsFor, .ref r_since, .int m_clock, .ref r_wantCount, .ref r_want, .ref r_sendCount, .ref r_send, .ref r_owner, .ref r_value, .ref r_there, .ref r_lost, .int m_losing, .int m_changes, .ref r_changedBy, .ref r_changed, .ref r_before, .int 0, .ref r_log]))] sz)) 0 0 (va_A [(y, .inr (6, [.int m_thrown, .int m_works, .ref r_steps, .ref r_failsAt, .ref r_state, .ref r_step, .ref r_got, .ref r_latest, .ref r_begun, .ref r_asked, .ref r_again, .ref r_waitsFor, .ref r_since, .int m_clock, .ref r_wantCount, .ref r_want, .ref r_sendCount, .ref r_send, .ref r_owner, .ref r_value, .ref r_there, .ref r_lost, .int m_losing, .int m_changes, .ref r_changedBy, .ref r_changed, .ref r_before, .int 0, .ref r_log]))] sz) := by
  refine Met.ofW (cc := cX6_log) (maxL := 2) (ret := (some .int)) (by decide) rfl ?_
  intro p e s m args below meth c s₁ B hml hv
  obtain ⟨rfl, hsz, hP, hKK, hD0⟩ := hv
  have hx := B.exec
  have hb := B.bytes
  have hr := B.returns
  have hts := atoms_spec (ws := wsX6_log) B.pre
  have hown : s.vm.findClass RX6 = some m.cls := findClass_of_methodNamed B.named
  have hlocks := B.notSynchronized
  subst hsz
  have hD := hD0.self (sz := s.heap.size)
  generalize hAe : va_A [(y, .inr (6, [.int m_thrown, .int m_works, .ref r_steps, .ref r_failsAt, .ref r_state, .ref r_step, .ref r_got, .ref r_latest, .ref r_begun, .ref r_asked, .ref r_again, .ref r_waitsFor, .ref r_since, .int m_clock, .ref r_wantCount, .ref r_want, .ref r_sendCount, .ref r_send, .ref r_owner, .ref r_value, .ref r_there, .ref r_lost, .int m_losing, .int m_changes, .ref r_changedBy, .ref r_changed, .ref r_before, .int 0, .ref r_log]))] s.heap.size = A at hD ⊢
  have hA : ∀ q : Nat, s.heap.size ≤ q → A q := fun q h => by rw [← hAe]; exact Or.inr h
  have hS : va_S A s.heap s.heap [] := va_S.rf
  have hP : va_P (dC, dI) vwCl [(y, .inr (6, [.int m_thrown, .int m_works, .ref r_steps, .ref r_failsAt, .ref r_state, .ref r_step, .ref r_got, .ref r_latest, .ref r_begun, .ref r_asked, .ref r_again, .ref r_waitsFor, .ref r_since, .int m_clock, .ref r_wantCount, .ref r_want, .ref r_sendCount, .ref r_send, .ref r_owner, .ref r_value, .ref r_there, .ref r_lost, .int m_losing, .int m_changes, .ref r_changedBy, .ref r_changed, .ref r_before, .int 0, .ref r_log]))] s.heap := hP
  have hl := lv_entry ([.ref y, .int v]) (n := 2) (Nat.le_of_ble_eq_true rfl)
  rw [lg_entry_eq]
  generalize (lg_sl ([.ref y, .int v]) ++ List.replicate (2 - (lg_sl ([.ref y, .int v])).length) Slot.unset).toArray = ls at hl ⊢
  have hl : lv_has ls 2 [(0, .ref y), (1, .int v)] := hl
  refine lv_aload_n hx hb dX6_log_0 rfl (lv_at hl 0 rfl) ?_
  refine lv_iconst (v := 0) hx hb dX6_log_1 (by decide) ?_
  refine va_put (D := (dC, dI)) (ci := 6) (v := .int 0) (ty := .int) (C := RX6) (T := TX6) (N := 29) hx hb hts iX6_log_X6 tyX6 tyX6_ok nmX6 hown hKK.1 hP hD hS 0 rfl rfl 0 (by decide) (hts (.fieldLink RX6 80 "LendThreadsModel" "thrown" "I") (by decide +kernel)) (fun _ h9 => h9) rfl (by decide +kernel) rfl rfl (Nat.le_of_ble_eq_true rfl) dX6_log_2 (fun H locs hP hD hS => ?_)
  have hP : va_P (dC, dI) vwCl [(y, .inr (6, [.int 0, .int m_works, .ref r_steps, .ref r_failsAt, .ref r_state, .ref r_step, .ref r_got, .ref r_latest, .ref r_begun, .ref r_asked, .ref r_again, .ref r_waitsFor, .ref r_since, .int m_clock, .ref r_wantCount, .ref r_want, .ref r_sendCount, .ref r_send, .ref r_owner, .ref r_value, .ref r_there, .ref r_lost, .int m_losing, .int m_changes, .ref r_changedBy, .ref r_changed, .ref r_before, .int 0, .ref r_log]))] H := hP
  have hD : va_D A [(y, .inr (6, [.int 0, .int m_works, .ref r_steps, .ref r_failsAt, .ref r_state, .ref r_step, .ref r_got, .ref r_latest, .ref r_begun, .ref r_asked, .ref r_again, .ref r_waitsFor, .ref r_since, .int m_clock, .ref r_wantCount, .ref r_want, .ref r_sendCount, .ref r_send, .ref r_owner, .ref r_value, .ref r_there, .ref r_lost, .int m_losing, .int m_changes, .ref r_changedBy, .ref r_changed, .ref r_before, .int 0, .ref r_log]))] := hD
  refine lv_iload_n hx hb dX6_log_5 rfl (lv_at hl 1 rfl) ?_
  refine lv_iconst (v := 0) hx hb dX6_log_6 (by decide) ?_
  refine lv_aload_n hx hb dX6_log_7 rfl (lv_at hl 0 rfl) ?_
  refine va_get (D := (dC, dI)) (ci := 6) (v := .int 0) (C := RX6) (T := TX6) (N := 29) hx hb hts iX6_log_X6 hown hKK.1 hP 0 rfl rfl 27 (by decide) (hts (.fieldLink RX6 116 "LendThreadsModel" "logged" "I") (by decide +kernel)) (fun _ h9 => h9) rfl dX6_log_8 ?_
  refine lv_iconst (v := 1) hx hb dX6_log_11 (by decide) ?_
  refine lv_isub hx hb dX6_log_12 ?_
  refine lv_topi (fun x_1 ex_1 => ?_)
  obtain rfl : x_1 = (-1) := by rw [ex_1]; decide
  refine vp_callSi (va_Run.run (va_runS (As := [.int v, .int 0, .int (-1)]) (rest := []) ⟨hx, hb, hml, hown, hts⟩ (c_in l dC dI cI v 0 (-1)) (va_cwS 3 hts gX6_log_X6_in rfl rfl rfl (by decide +kernel) ⟨Nat.le_of_ble_eq_true rfl, Nat.le_of_ble_eq_true rfl⟩) (rP_preS hKK (hP.sub (ws' := []) [] rfl)) rfl rfl hl.1 rfl (lv_room (Nat.le_of_ble_eq_true rfl)) dX6_log_13 ⟨(show 0 + 0 ≤ 0 by omega), (show 0 + 0 ≤ 0 by omega)⟩)) (fun r_2 hr_2 => ?_)
  obtain rfl : r_2 = 0 := by rcases hr_2 with ⟨_, a, b⟩ | ⟨e, _⟩; exact (bn_neg1 a b).elim; exact e
  refine lv_if_eq (tgt := 28) hx hb dX6_log_16 (by decide) (fun c_3 => ?_) (fun c_3 => ?_)
  · refine lv_iconst (v := (-1)) hx hb dX6_log_28 (by decide) ?_
    refine W.widen (k := 0) (n := 0) (by omega) (by omega) ?_
    have hP9 := hP.sub (ws' := []) [] rfl
    have hD9 := hD.sub (ws' := []) [] (by decide) rfl
    exact W.iret (v := (-1)) hx hb hr (fun t ht hW => ⟨⟨(-1), (), rfl, rfl, by rw [ht]; exact hP9, hD9⟩, hS.F ht⟩) hS.2.2 dX6_log_29
  · exact absurd c_3 (by decide)
theorem iX6_loses_X6 : ∀ w ∈ u_ws RX6 TX6 29, w ∈ wsX6_loses := by decide +kernel
set_option maxHeartbeats 4000000 in
set_option maxRecDepth 100000 in
/-- loses, no works -/
theorem c_mloses0 (l : Launch) (dC : Nat → ClassId) (dI : Nat → Nat → Nat) (cI : ClassId) (sz : Nat) (y r_steps r_failsAt r_state r_step r_got r_latest r_begun r_asked r_again r_waitsFor r_since r_wantCount r_want r_sendCount r_send r_owner r_value r_there r_lost r_changedBy r_changed r_before r_log : Nat) (m_thrown m_works m_clock m_losing m_changes m_logged : Int32) (v : Int32) : Met l yX6_loses wsX6_loses ({ frames := 1, cells := 0, slots := 0, locals := 22 }) (uP dC dI cI [.ref y, .int v] [(y, .inr (6, [.int m_thrown, .int m_works, .ref r_steps, .ref r_failsAt, .ref r_state, .ref r_step, .ref r_got, .ref r_latest, .ref r_begun, .ref r_asked, .ref r_again, .ref r_waitsFor, .ref r_since, .int m_clock, .ref r_wantCount, .ref r_want, .ref r_sendCount, .ref r_send, .ref r_owner, .ref r_value, .ref r_there, .ref r_lost, .int m_losing, .int m_changes, .ref r_changedBy, .ref r_changed, .ref r_before, .int m_logged, .ref r_log]))] sz) (va_Qi (fun r _ => (r = 1 ∧ ¬ v < 0 ∧ ¬ 100 < v) ∨ (r = -2 ∧ (v < 0 ∨ 100 < v))) (fun (u : Unit) t => uB dC dI (va_A [(y, .inr (6, [.int m_thrown, .int m_works, .ref r_steps, .ref r_failsAt, .ref r_state, .ref r_step, .ref r_got, .ref r_latest, .ref r_begun, .ref r_asked, .ref r_again, .ref r_waitsFor, .ref r_since, .int m_clock, .ref r_wantCount, .ref r_want, .ref r_sendCount, .ref r_send, .ref r_owner, .ref r_value, .ref r_there, .ref r_lost, .int m_losing, .int m_changes, .ref r_changedBy, .ref r_changed, .ref r_before, .int m_logged, .ref r_log]))] sz) [] t) (va_A [(y, .inr (6, [.int m_thrown, .int m_works, .ref r_steps, .ref r_failsAt, .ref r_state, .ref r_step, .ref r_got, .ref r_latest, .ref r_begun, .ref r_asked, .ref r_again, .ref r_waitsFor, .ref r_since, .int m_clock, .ref r_wantCount, .ref r_want, .ref r_sendCount, .ref r_send, .ref r_owner, .ref r_value, .ref r_there, .ref r_lost, .int m_losing, .int m_changes, .ref r_changedBy, .ref r_changed, .ref r_before, .int m_logged, .ref r_log]))] sz)) 0 0 (va_A [(y, .inr (6, [.int m_thrown, .int m_works, .ref r_steps, .ref r_failsAt, .ref r_state, .ref r_step, .ref r_got, .ref r_latest, .ref r_begun, .ref r_asked, .ref r_again, .ref r_waitsFor, .ref r_since, .int m_clock, .ref r_wantCount, .ref r_want, .ref r_sendCount, .ref r_send, .ref r_owner, .ref r_value, .ref r_there, .ref r_lost, .int m_losing, .int m_changes, .ref r_changedBy, .ref r_changed, .ref r_before, .int m_logged, .ref r_log]))] sz) := by
  refine Met.ofW (cc := cX6_loses) (maxL := 2) (ret := (some .int)) (by decide) rfl ?_
  intro p e s m args below meth c s₁ B hml hv
  obtain ⟨rfl, hsz, hP, hKK, hD0⟩ := hv
  have hx := B.exec
  have hb := B.bytes
  have hr := B.returns
  have hts := atoms_spec (ws := wsX6_loses) B.pre
  have hown : s.vm.findClass RX6 = some m.cls := findClass_of_methodNamed B.named
  have hlocks := B.notSynchronized
  subst hsz
  have hD := hD0.self (sz := s.heap.size)
  generalize hAe : va_A [(y, .inr (6, [.int m_thrown, .int m_works, .ref r_steps, .ref r_failsAt, .ref r_state, .ref r_step, .ref r_got, .ref r_latest, .ref r_begun, .ref r_asked, .ref r_again, .ref r_waitsFor, .ref r_since, .int m_clock, .ref r_wantCount, .ref r_want, .ref r_sendCount, .ref r_send, .ref r_owner, .ref r_value, .ref r_there, .ref r_lost, .int m_losing, .int m_changes, .ref r_changedBy, .ref r_changed, .ref r_before, .int m_logged, .ref r_log]))] s.heap.size = A at hD ⊢
  have hA : ∀ q : Nat, s.heap.size ≤ q → A q := fun q h => by rw [← hAe]; exact Or.inr h
  have hS : va_S A s.heap s.heap [] := va_S.rf
  have hP : va_P (dC, dI) vwCl [(y, .inr (6, [.int m_thrown, .int m_works, .ref r_steps, .ref r_failsAt, .ref r_state, .ref r_step, .ref r_got, .ref r_latest, .ref r_begun, .ref r_asked, .ref r_again, .ref r_waitsFor, .ref r_since, .int m_clock, .ref r_wantCount, .ref r_want, .ref r_sendCount, .ref r_send, .ref r_owner, .ref r_value, .ref r_there, .ref r_lost, .int m_losing, .int m_changes, .ref r_changedBy, .ref r_changed, .ref r_before, .int m_logged, .ref r_log]))] s.heap := hP
  have hl := lv_entry ([.ref y, .int v]) (n := 2) (Nat.le_of_ble_eq_true rfl)
  rw [lg_entry_eq]
  generalize (lg_sl ([.ref y, .int v]) ++ List.replicate (2 - (lg_sl ([.ref y, .int v])).length) Slot.unset).toArray = ls at hl ⊢
  have hl : lv_has ls 2 [(0, .ref y), (1, .int v)] := hl
  refine lv_aload_n hx hb dX6_loses_0 rfl (lv_at hl 0 rfl) ?_
  refine lv_iconst (v := 0) hx hb dX6_loses_1 (by decide) ?_
  refine va_put (D := (dC, dI)) (ci := 6) (v := .int 0) (ty := .int) (C := RX6) (T := TX6) (N := 29) hx hb hts iX6_loses_X6 tyX6 tyX6_ok nmX6 hown hKK.1 hP hD hS 0 rfl rfl 0 (by decide) (hts (.fieldLink RX6 80 "LendThreadsModel" "thrown" "I") (by decide +kernel)) (fun _ h9 => h9) rfl (by decide +kernel) rfl rfl (Nat.le_of_ble_eq_true rfl) dX6_loses_2 (fun H locs hP hD hS => ?_)
  have hP : va_P (dC, dI) vwCl [(y, .inr (6, [.int 0, .int m_works, .ref r_steps, .ref r_failsAt, .ref r_state, .ref r_step, .ref r_got, .ref r_latest, .ref r_begun, .ref r_asked, .ref r_again, .ref r_waitsFor, .ref r_since, .int m_clock, .ref r_wantCount, .ref r_want, .ref r_sendCount, .ref r_send, .ref r_owner, .ref r_value, .ref r_there, .ref r_lost, .int m_losing, .int m_changes, .ref r_changedBy, .ref r_changed, .ref r_before, .int m_logged, .ref r_log]))] H := hP
  have hD : va_D A [(y, .inr (6, [.int 0, .int m_works, .ref r_steps, .ref r_failsAt, .ref r_state, .ref r_step, .ref r_got, .ref r_latest, .ref r_begun, .ref r_asked, .ref r_again, .ref r_waitsFor, .ref r_since, .int m_clock, .ref r_wantCount, .ref r_want, .ref r_sendCount, .ref r_send, .ref r_owner, .ref r_value, .ref r_there, .ref r_lost, .int m_losing, .int m_changes, .ref r_changedBy, .ref r_changed, .ref r_before, .int m_logged, .ref r_log]))] := hD
  refine lv_iload_n hx hb dX6_loses_5 rfl (lv_at hl 1 rfl) ?_
  refine lv_iconst (v := 0) hx hb dX6_loses_6 (by decide) ?_
  refine lv_bipush (v := 100) hx hb dX6_loses_7 (by decide) ?_
  refine vp_callSi (va_Run.run (va_runS (As := [.int v, .int 0, .int 100]) (rest := []) ⟨hx, hb, hml, hown, hts⟩ (c_in l dC dI cI v 0 100) (va_cwS 3 hts gX6_loses_X6_in rfl rfl rfl (by decide +kernel) ⟨Nat.le_of_ble_eq_true rfl, Nat.le_of_ble_eq_true rfl⟩) (rP_preS hKK (hP.sub (ws' := []) [] rfl)) rfl rfl hl.1 rfl (lv_room (Nat.le_of_ble_eq_true rfl)) dX6_loses_9 ⟨(show 0 + 0 ≤ 0 by omega), (show 0 + 0 ≤ 0 by omega)⟩)) (fun r_1 hr_1 => ?_)
  refine lv_if_ne (tgt := 18) hx hb dX6_loses_12 (by decide) (fun c_2 => ?_) (fun c_2 => ?_)
  · refine lv_aload_n hx hb dX6_loses_18 rfl (lv_at hl 0 rfl) ?_
    refine lv_iload_n hx hb dX6_loses_19 rfl (lv_at hl 1 rfl) ?_
    refine va_put (D := (dC, dI)) (ci := 6) (v := .int v) (ty := .int) (C := RX6) (T := TX6) (N := 29) hx hb hts iX6_loses_X6 tyX6 tyX6_ok nmX6 hown hKK.1 hP hD hS 0 rfl rfl 22 (by decide) (hts (.fieldLink RX6 99 "LendThreadsModel" "losing" "I") (by decide +kernel)) (fun _ h9 => h9) rfl (by decide +kernel) rfl rfl (Nat.le_of_ble_eq_true rfl) dX6_loses_20 (fun H locs hP hD hS => ?_)
    have hP : va_P (dC, dI) vwCl [(y, .inr (6, [.int 0, .int m_works, .ref r_steps, .ref r_failsAt, .ref r_state, .ref r_step, .ref r_got, .ref r_latest, .ref r_begun, .ref r_asked, .ref r_again, .ref r_waitsFor, .ref r_since, .int m_clock, .ref r_wantCount, .ref r_want, .ref r_sendCount, .ref r_send, .ref r_owner, .ref r_value, .ref r_there, .ref r_lost, .int v, .int m_changes, .ref r_changedBy, .ref r_changed, .ref r_before, .int m_logged, .ref r_log]))] H := hP
    have hD : va_D A [(y, .inr (6, [.int 0, .int m_works, .ref r_steps, .ref r_failsAt, .ref r_state, .ref r_step, .ref r_got, .ref r_latest, .ref r_begun, .ref r_asked, .ref r_again, .ref r_waitsFor, .ref r_since, .int m_clock, .ref r_wantCount, .ref r_want, .ref r_sendCount, .ref r_send, .ref r_owner, .ref r_value, .ref r_there, .ref r_lost, .int v, .int m_changes, .ref r_changedBy, .ref r_changed, .ref r_before, .int m_logged, .ref r_log]))] := hD
    refine lv_iconst (v := 1) hx hb dX6_loses_23 (by decide) ?_
    refine W.widen (k := 0) (n := 0) (by omega) (by omega) ?_
    have hP9 := hP.sub (ws' := []) [] rfl
    have hD9 := hD.sub (ws' := []) [] (by decide) rfl
    exact W.iret (v := 1) hx hb hr (fun t ht hW => ⟨⟨1, (), rfl, by rcases hr_1 with ⟨e, a, b⟩ | ⟨e, h⟩; exact Or.inl ⟨rfl, a, b⟩; exact absurd e c_2, by rw [ht]; exact hP9, hD9⟩, hS.F ht⟩) hS.2.2 dX6_loses_24
  · refine lv_bipush (v := (-2)) hx hb dX6_loses_15 (by decide) ?_
    refine W.widen (k := 0) (n := 0) (by omega) (by omega) ?_
    have hP9 := hP.sub (ws' := []) [] rfl
    have hD9 := hD.sub (ws' := []) [] (by decide) rfl
    exact W.iret (v := (-2)) hx hb hr (fun t ht hW => ⟨⟨(-2), (), rfl, by rcases hr_1 with ⟨e, a, b⟩ | ⟨e, h⟩; exact absurd (e.symm.trans c_2) (by decide); exact Or.inr ⟨rfl, h⟩, by rw [ht]; exact hP9, hD9⟩, hS.F ht⟩) hS.2.2 dX6_loses_17
theorem iX6_has_X6 : ∀ w ∈ u_ws RX6 TX6 29, w ∈ wsX6_has := by decide +kernel
set_option maxHeartbeats 4000000 in
set_option maxRecDepth 100000 in
/-- has, no works -/
theorem c_mhas0 (l : Launch) (dC : Nat → ClassId) (dI : Nat → Nat → Nat) (cI : ClassId) (sz : Nat) (y r_steps r_failsAt r_state r_step r_got r_latest r_begun r_asked r_again r_waitsFor r_since r_wantCount r_want r_sendCount r_send r_owner r_value r_there r_lost r_changedBy r_changed r_before r_log : Nat) (m_thrown m_works m_clock m_losing m_changes m_logged : Int32) (f : Nat → Int32) (hf : ∀ j, j < 10 → f j = 0) (v : Int32) : Met l yX6_has wsX6_has ({ frames := 1, cells := 0, slots := 0, locals := 22 }) (uP dC dI cI [.ref y, .int v] [(y, .inr (6, [.int m_thrown, .int m_works, .ref r_steps, .ref r_failsAt, .ref r_state, .ref r_step, .ref r_got, .ref r_latest, .ref r_begun, .ref r_asked, .ref r_again, .ref r_waitsFor, .ref r_since, .int m_clock, .ref r_wantCount, .ref r_want, .ref r_sendCount, .ref r_send, .ref r_owner, .ref r_value, .ref r_there, .ref r_lost, .int m_losing, .int m_changes, .ref r_changedBy, .ref r_changed, .ref r_before, .int m_logged, .ref r_log])), (r_owner, .inl (cI, 10, .inl f))] sz) (va_Qi (fun r _ => r = -1) (fun (u : Unit) t => uB dC dI (va_A [(y, .inr (6, [.int m_thrown, .int m_works, .ref r_steps, .ref r_failsAt, .ref r_state, .ref r_step, .ref r_got, .ref r_latest, .ref r_begun, .ref r_asked, .ref r_again, .ref r_waitsFor, .ref r_since, .int m_clock, .ref r_wantCount, .ref r_want, .ref r_sendCount, .ref r_send, .ref r_owner, .ref r_value, .ref r_there, .ref r_lost, .int m_losing, .int m_changes, .ref r_changedBy, .ref r_changed, .ref r_before, .int m_logged, .ref r_log])), (r_owner, .inl (cI, 10, .inl f))] sz) [] t) (va_A [(y, .inr (6, [.int m_thrown, .int m_works, .ref r_steps, .ref r_failsAt, .ref r_state, .ref r_step, .ref r_got, .ref r_latest, .ref r_begun, .ref r_asked, .ref r_again, .ref r_waitsFor, .ref r_since, .int m_clock, .ref r_wantCount, .ref r_want, .ref r_sendCount, .ref r_send, .ref r_owner, .ref r_value, .ref r_there, .ref r_lost, .int m_losing, .int m_changes, .ref r_changedBy, .ref r_changed, .ref r_before, .int m_logged, .ref r_log])), (r_owner, .inl (cI, 10, .inl f))] sz)) 0 0 (va_A [(y, .inr (6, [.int m_thrown, .int m_works, .ref r_steps, .ref r_failsAt, .ref r_state, .ref r_step, .ref r_got, .ref r_latest, .ref r_begun, .ref r_asked, .ref r_again, .ref r_waitsFor, .ref r_since, .int m_clock, .ref r_wantCount, .ref r_want, .ref r_sendCount, .ref r_send, .ref r_owner, .ref r_value, .ref r_there, .ref r_lost, .int m_losing, .int m_changes, .ref r_changedBy, .ref r_changed, .ref r_before, .int m_logged, .ref r_log])), (r_owner, .inl (cI, 10, .inl f))] sz) := by
  refine Met.ofW (cc := cX6_has) (maxL := 2) (ret := (some .int)) (by decide) rfl ?_
  intro p e s m args below meth c s₁ B hml hv
  obtain ⟨rfl, hsz, hP, hKK, hD0⟩ := hv
  have hx := B.exec
  have hb := B.bytes
  have hr := B.returns
  have hts := atoms_spec (ws := wsX6_has) B.pre
  have hown : s.vm.findClass RX6 = some m.cls := findClass_of_methodNamed B.named
  have hlocks := B.notSynchronized
  subst hsz
  have hD := hD0.self (sz := s.heap.size)
  generalize hAe : va_A [(y, .inr (6, [.int m_thrown, .int m_works, .ref r_steps, .ref r_failsAt, .ref r_state, .ref r_step, .ref r_got, .ref r_latest, .ref r_begun, .ref r_asked, .ref r_again, .ref r_waitsFor, .ref r_since, .int m_clock, .ref r_wantCount, .ref r_want, .ref r_sendCount, .ref r_send, .ref r_owner, .ref r_value, .ref r_there, .ref r_lost, .int m_losing, .int m_changes, .ref r_changedBy, .ref r_changed, .ref r_before, .int m_logged, .ref r_log])), (r_owner, .inl (cI, 10, .inl f))] s.heap.size = A at hD ⊢
  have hA : ∀ q : Nat, s.heap.size ≤ q → A q := fun q h => by rw [← hAe]; exact Or.inr h
  have hS : va_S A s.heap s.heap [] := va_S.rf
  have hP : va_P (dC, dI) vwCl [(y, .inr (6, [.int m_thrown, .int m_works, .ref r_steps, .ref r_failsAt, .ref r_state, .ref r_step, .ref r_got, .ref r_latest, .ref r_begun, .ref r_asked, .ref r_again, .ref r_waitsFor, .ref r_since, .int m_clock, .ref r_wantCount, .ref r_want, .ref r_sendCount, .ref r_send, .ref r_owner, .ref r_value, .ref r_there, .ref r_lost, .int m_losing, .int m_changes, .ref r_changedBy, .ref r_changed, .ref r_before, .int m_logged, .ref r_log])), (r_owner, .inl (cI, 10, .inl f))] s.heap := hP
  have hl := lv_entry ([.ref y, .int v]) (n := 2) (Nat.le_of_ble_eq_true rfl)
  rw [lg_entry_eq]
  generalize (lg_sl ([.ref y, .int v]) ++ List.replicate (2 - (lg_sl ([.ref y, .int v])).length) Slot.unset).toArray = ls at hl ⊢
  have hl : lv_has ls 2 [(0, .ref y), (1, .int v)] := hl
  refine lv_aload_n hx hb dX6_has_0 rfl (lv_at hl 0 rfl) ?_
  refine lv_iconst (v := 0) hx hb dX6_has_1 (by decide) ?_
  refine va_put (D := (dC, dI)) (ci := 6) (v := .int 0) (ty := .int) (C := RX6) (T := TX6) (N := 29) hx hb hts iX6_has_X6 tyX6 tyX6_ok nmX6 hown hKK.1 hP hD hS 0 rfl rfl 0 (by decide) (hts (.fieldLink RX6 80 "LendThreadsModel" "thrown" "I") (by decide +kernel)) (fun _ h9 => h9) rfl (by decide +kernel) rfl rfl (Nat.le_of_ble_eq_true rfl) dX6_has_2 (fun H locs hP hD hS => ?_)
  have hP : va_P (dC, dI) vwCl [(y, .inr (6, [.int 0, .int m_works, .ref r_steps, .ref r_failsAt, .ref r_state, .ref r_step, .ref r_got, .ref r_latest, .ref r_begun, .ref r_asked, .ref r_again, .ref r_waitsFor, .ref r_since, .int m_clock, .ref r_wantCount, .ref r_want, .ref r_sendCount, .ref r_send, .ref r_owner, .ref r_value, .ref r_there, .ref r_lost, .int m_losing, .int m_changes, .ref r_changedBy, .ref r_changed, .ref r_before, .int m_logged, .ref r_log])), (r_owner, .inl (cI, 10, .inl f))] H := hP
  have hD : va_D A [(y, .inr (6, [.int 0, .int m_works, .ref r_steps, .ref r_failsAt, .ref r_state, .ref r_step, .ref r_got, .ref r_latest, .ref r_begun, .ref r_asked, .ref r_again, .ref r_waitsFor, .ref r_since, .int m_clock, .ref r_wantCount, .ref r_want, .ref r_sendCount, .ref r_send, .ref r_owner, .ref r_value, .ref r_there, .ref r_lost, .int m_losing, .int m_changes, .ref r_changedBy, .ref r_changed, .ref r_before, .int m_logged, .ref r_log])), (r_owner, .inl (cI, 10, .inl f))] := hD
  refine lv_iload_n hx hb dX6_has_5 rfl (lv_at hl 1 rfl) ?_
  refine lv_iconst (v := 0) hx hb dX6_has_6 (by decide) ?_
  refine lv_bipush (v := 9) hx hb dX6_has_7 (by decide) ?_
  refine vp_callSi (va_Run.run (va_runS (As := [.int v, .int 0, .int 9]) (rest := []) ⟨hx, hb, hml, hown, hts⟩ (c_in l dC dI cI v 0 9) (va_cwS 3 hts gX6_has_X6_in rfl rfl rfl (by decide +kernel) ⟨Nat.le_of_ble_eq_true rfl, Nat.le_of_ble_eq_true rfl⟩) (rP_preS hKK (hP.sub (ws' := []) [] rfl)) rfl rfl hl.1 rfl (lv_room (Nat.le_of_ble_eq_true rfl)) dX6_has_9 ⟨(show 0 + 0 ≤ 0 by omega), (show 0 + 0 ≤ 0 by omega)⟩)) (fun r_1 hr_1 => ?_)
  refine lv_if_eq (tgt := 26) hx hb dX6_has_12 (by decide) (fun c_2 => ?_) (fun c_2 => ?_)
  · refine lv_iconst (v := (-1)) hx hb dX6_has_26 (by decide) ?_
    refine W.widen (k := 0) (n := 0) (by omega) (by omega) ?_
    have hP9 := hP.sub (ws' := []) [] rfl
    have hD9 := hD.sub (ws' := []) [] (by decide) rfl
    exact W.iret (v := (-1)) hx hb hr (fun t ht hW => ⟨⟨(-1), (), rfl, rfl, by rw [ht]; exact hP9, hD9⟩, hS.F ht⟩) hS.2.2 dX6_has_27
  · refine lv_aload_n hx hb dX6_has_15 rfl (lv_at hl 0 rfl) ?_
    refine va_get (D := (dC, dI)) (ci := 6) (v := .ref r_owner) (C := RX6) (T := TX6) (N := 29) hx hb hts iX6_has_X6 hown hKK.1 hP 0 rfl rfl 18 (by decide) (hts (.fieldLink RX6 56 "LendThreadsModel" "owner" "[I") (by decide +kernel)) (fun _ h9 => h9) rfl dX6_has_16 ?_
    refine lv_iload_n hx hb dX6_has_19 rfl (lv_at hl 1 rfl) ?_
    refine va_iald hx hb hKK.1 hP 1 0 rfl rfl (by rcases hr_1 with ⟨_, a, b⟩ | ⟨e, _⟩; exact bn_in9 a b; exact absurd e c_2) dX6_has_20 ?_
    refine lv_topi (fun x_3 ex_3 => ?_)
    refine lv_iconst (v := 1) hx hb dX6_has_21 (by decide) ?_
    refine lv_isub hx hb dX6_has_22 ?_
    refine lv_topi (fun x_4 ex_4 => ?_)
    refine lv_goto (tgt := 27) hx hb dX6_has_23 (by decide) ?_
    refine W.widen (k := 0) (n := 0) (by omega) (by omega) ?_
    have hP9 := hP.sub (ws' := []) [] rfl
    have hD9 := hD.sub (ws' := []) [] (by decide) rfl
    exact W.iret (v := x_4) hx hb hr (fun t ht hW => ⟨⟨x_4, (), rfl, (by rw [ex_4, ex_3, hf _ (bn_lt (n := 10) (by rcases hr_1 with ⟨_, a, b⟩ | ⟨e, _⟩; exact bn_in9 a b; exact absurd e c_2))]; decide), by rw [ht]; exact hP9, hD9⟩, hS.F ht⟩) hS.2.2 dX6_has_27
theorem iX6_value_X6 : ∀ w ∈ u_ws RX6 TX6 29, w ∈ wsX6_value := by decide +kernel
set_option maxHeartbeats 4000000 in
set_option maxRecDepth 100000 in
/-- value -/
theorem c_mvalue0 (l : Launch) (dC : Nat → ClassId) (dI : Nat → Nat → Nat) (cI : ClassId) (sz : Nat) (y r_steps r_failsAt r_state r_step r_got r_latest r_begun r_asked r_again r_waitsFor r_since r_wantCount r_want r_sendCount r_send r_owner r_value r_there r_lost r_changedBy r_changed r_before r_log : Nat) (m_thrown m_works m_clock m_losing m_changes m_logged : Int32) (f : Nat → Int32) (hf : ∀ j, j < 10 → f j = 0) (v : Int32) : Met l yX6_value wsX6_value ({ frames := 1, cells := 0, slots := 0, locals := 22 }) (uP dC dI cI [.ref y, .int v] [(y, .inr (6, [.int m_thrown, .int m_works, .ref r_steps, .ref r_failsAt, .ref r_state, .ref r_step, .ref r_got, .ref r_latest, .ref r_begun, .ref r_asked, .ref r_again, .ref r_waitsFor, .ref r_since, .int m_clock, .ref r_wantCount, .ref r_want, .ref r_sendCount, .ref r_send, .ref r_owner, .ref r_value, .ref r_there, .ref r_lost, .int m_losing, .int m_changes, .ref r_changedBy, .ref r_changed, .ref r_before, .int m_logged, .ref r_log])), (r_value, .inl (cI, 10, .inl f))] sz) (va_Qi (fun r u => (u = 0 ∧ (¬ v < 0 ∧ ¬ 9 < v) ∧ r = 0) ∨ (u = 1 ∧ (v < 0 ∨ 9 < v))) (fun (u : Int32) t => uB dC dI (va_A [(y, .inr (6, [.int m_thrown, .int m_works, .ref r_steps, .ref r_failsAt, .ref r_state, .ref r_step, .ref r_got, .ref r_latest, .ref r_begun, .ref r_asked, .ref r_again, .ref r_waitsFor, .ref r_since, .int m_clock, .ref r_wantCount, .ref r_want, .ref r_sendCount, .ref r_send, .ref r_owner, .ref r_value, .ref r_there, .ref r_lost, .int m_losing, .int m_changes, .ref r_changedBy, .ref r_changed, .ref r_before, .int m_logged, .ref r_log])), (r_value, .inl (cI, 10, .inl f))] sz) [(y, .inr (6, [.int u, .int m_works, .ref r_steps, .ref r_failsAt, .ref r_state, .ref r_step, .ref r_got, .ref r_latest, .ref r_begun, .ref r_asked, .ref r_again, .ref r_waitsFor, .ref r_since, .int m_clock, .ref r_wantCount, .ref r_want, .ref r_sendCount, .ref r_send, .ref r_owner, .ref r_value, .ref r_there, .ref r_lost, .int m_losing, .int m_changes, .ref r_changedBy, .ref r_changed, .ref r_before, .int m_logged, .ref r_log]))] t) (va_A [(y, .inr (6, [.int m_thrown, .int m_works, .ref r_steps, .ref r_failsAt, .ref r_state, .ref r_step, .ref r_got, .ref r_latest, .ref r_begun, .ref r_asked, .ref r_again, .ref r_waitsFor, .ref r_since, .int m_clock, .ref r_wantCount, .ref r_want, .ref r_sendCount, .ref r_send, .ref r_owner, .ref r_value, .ref r_there, .ref r_lost, .int m_losing, .int m_changes, .ref r_changedBy, .ref r_changed, .ref r_before, .int m_logged, .ref r_log])), (r_value, .inl (cI, 10, .inl f))] sz)) 0 0 (va_A [(y, .inr (6, [.int m_thrown, .int m_works, .ref r_steps, .ref r_failsAt, .ref r_state, .ref r_step, .ref r_got, .ref r_latest, .ref r_begun, .ref r_asked, .ref r_again, .ref r_waitsFor, .ref r_since, .int m_clock, .ref r_wantCount, .ref r_want, .ref r_sendCount, .ref r_send, .ref r_owner, .ref r_value, .ref r_there, .ref r_lost, .int m_losing, .int m_changes, .ref r_changedBy, .ref r_changed, .ref r_before, .int m_logged, .ref r_log])), (r_value, .inl (cI, 10, .inl f))] sz) := by
  refine Met.ofW (cc := cX6_value) (maxL := 2) (ret := (some .int)) (by decide) rfl ?_
  intro p e s m args below meth c s₁ B hml hv
  obtain ⟨rfl, hsz, hP, hKK, hD0⟩ := hv
  have hx := B.exec
  have hb := B.bytes
  have hr := B.returns
  have hts := atoms_spec (ws := wsX6_value) B.pre
  have hown : s.vm.findClass RX6 = some m.cls := findClass_of_methodNamed B.named
  have hlocks := B.notSynchronized
  subst hsz
  have hD := hD0.self (sz := s.heap.size)
  generalize hAe : va_A [(y, .inr (6, [.int m_thrown, .int m_works, .ref r_steps, .ref r_failsAt, .ref r_state, .ref r_step, .ref r_got, .ref r_latest, .ref r_begun, .ref r_asked, .ref r_again, .ref r_waitsFor, .ref r_since, .int m_clock, .ref r_wantCount, .ref r_want, .ref r_sendCount, .ref r_send, .ref r_owner, .ref r_value, .ref r_there, .ref r_lost, .int m_losing, .int m_changes, .ref r_changedBy, .ref r_changed, .ref r_before, .int m_logged, .ref r_log])), (r_value, .inl (cI, 10, .inl f))] s.heap.size = A at hD ⊢
  have hA : ∀ q : Nat, s.heap.size ≤ q → A q := fun q h => by rw [← hAe]; exact Or.inr h
  have hS : va_S A s.heap s.heap [] := va_S.rf
  have hP : va_P (dC, dI) vwCl [(y, .inr (6, [.int m_thrown, .int m_works, .ref r_steps, .ref r_failsAt, .ref r_state, .ref r_step, .ref r_got, .ref r_latest, .ref r_begun, .ref r_asked, .ref r_again, .ref r_waitsFor, .ref r_since, .int m_clock, .ref r_wantCount, .ref r_want, .ref r_sendCount, .ref r_send, .ref r_owner, .ref r_value, .ref r_there, .ref r_lost, .int m_losing, .int m_changes, .ref r_changedBy, .ref r_changed, .ref r_before, .int m_logged, .ref r_log])), (r_value, .inl (cI, 10, .inl f))] s.heap := hP
  have hl := lv_entry ([.ref y, .int v]) (n := 2) (Nat.le_of_ble_eq_true rfl)
  rw [lg_entry_eq]
  generalize (lg_sl ([.ref y, .int v]) ++ List.replicate (2 - (lg_sl ([.ref y, .int v])).length) Slot.unset).toArray = ls at hl ⊢
  have hl : lv_has ls 2 [(0, .ref y), (1, .int v)] := hl
  refine lv_aload_n hx hb dX6_value_0 rfl (lv_at hl 0 rfl) ?_
  refine lv_iload_n hx hb dX6_value_1 rfl (lv_at hl 1 rfl) ?_
  refine lv_iconst (v := 0) hx hb dX6_value_2 (by decide) ?_
  refine lv_bipush (v := 9) hx hb dX6_value_3 (by decide) ?_
  refine vp_callSi (va_Run.run (va_runS (As := [.int v, .int 0, .int 9]) (rest := [.ref y]) ⟨hx, hb, hml, hown, hts⟩ (c_in l dC dI cI v 0 9) (va_cwS 3 hts gX6_value_X6_in rfl rfl rfl (by decide +kernel) ⟨Nat.le_of_ble_eq_true rfl, Nat.le_of_ble_eq_true rfl⟩) (rP_preS hKK (hP.sub (ws' := []) [] rfl)) rfl rfl hl.1 rfl (lv_room (Nat.le_of_ble_eq_true rfl)) dX6_value_5 ⟨(show 0 + 0 ≤ 0 by omega), (show 0 + 0 ≤ 0 by omega)⟩)) (fun r_1 hr_1 => ?_)
  refine lv_if_eq (tgt := 15) hx hb dX6_value_8 (by decide) (fun c_2 => ?_) (fun c_2 => ?_)
  · refine lv_iconst (v := 1) hx hb dX6_value_15 (by decide) ?_
    refine va_put (D := (dC, dI)) (ci := 6) (v := .int 1) (ty := .int) (C := RX6) (T := TX6) (N := 29) hx hb hts iX6_value_X6 tyX6 tyX6_ok nmX6 hown hKK.1 hP hD hS 0 rfl rfl 0 (by decide) (hts (.fieldLink RX6 80 "LendThreadsModel" "thrown" "I") (by decide +kernel)) (fun _ h9 => h9) rfl (by decide +kernel) rfl rfl (Nat.le_of_ble_eq_true rfl) dX6_value_16 (fun H locs hP hD hS => ?_)
    have hP : va_P (dC, dI) vwCl [(y, .inr (6, [.int 1, .int m_works, .ref r_steps, .ref r_failsAt, .ref r_state, .ref r_step, .ref r_got, .ref r_latest, .ref r_begun, .ref r_asked, .ref r_again, .ref r_waitsFor, .ref r_since, .int m_clock, .ref r_wantCount, .ref r_want, .ref r_sendCount, .ref r_send, .ref r_owner, .ref r_value, .ref r_there, .ref r_lost, .int m_losing, .int m_changes, .ref r_changedBy, .ref r_changed, .ref r_before, .int m_logged, .ref r_log])), (r_value, .inl (cI, 10, .inl f))] H := hP
    have hD : va_D A [(y, .inr (6, [.int 1, .int m_works, .ref r_steps, .ref r_failsAt, .ref r_state, .ref r_step, .ref r_got, .ref r_latest, .ref r_begun, .ref r_asked, .ref r_again, .ref r_waitsFor, .ref r_since, .int m_clock, .ref r_wantCount, .ref r_want, .ref r_sendCount, .ref r_send, .ref r_owner, .ref r_value, .ref r_there, .ref r_lost, .int m_losing, .int m_changes, .ref r_changedBy, .ref r_changed, .ref r_before, .int m_logged, .ref r_log])), (r_value, .inl (cI, 10, .inl f))] := hD
    refine lv_aload_n hx hb dX6_value_19 rfl (lv_at hl 0 rfl) ?_
    refine va_get (D := (dC, dI)) (ci := 6) (v := .int 1) (C := RX6) (T := TX6) (N := 29) hx hb hts iX6_value_X6 hown hKK.1 hP 0 rfl rfl 0 (by decide) (hts (.fieldLink RX6 80 "LendThreadsModel" "thrown" "I") (by decide +kernel)) (fun _ h9 => h9) rfl dX6_value_20 ?_
    refine lv_if_le (tgt := 30) hx hb dX6_value_23 (by decide) (fun c_3 => ?_) (fun c_3 => ?_)
    · exact absurd c_3 (by decide)
    · refine lv_iconst (v := 0) hx hb dX6_value_26 (by decide) ?_
      refine lv_goto (tgt := 36) hx hb dX6_value_27 (by decide) ?_
      refine W.widen (k := 0) (n := 0) (by omega) (by omega) ?_
      have hP9 := hP.sub (ws' := [(y, .inr (6, [.int 1, .int m_works, .ref r_steps, .ref r_failsAt, .ref r_state, .ref r_step, .ref r_got, .ref r_latest, .ref r_begun, .ref r_asked, .ref r_again, .ref r_waitsFor, .ref r_since, .int m_clock, .ref r_wantCount, .ref r_want, .ref r_sendCount, .ref r_send, .ref r_owner, .ref r_value, .ref r_there, .ref r_lost, .int m_losing, .int m_changes, .ref r_changedBy, .ref r_changed, .ref r_before, .int m_logged, .ref r_log]))]) [0] rfl
      have hD9 := hD.sub (ws' := [(y, .inr (6, [.int 1, .int m_works, .ref r_steps, .ref r_failsAt, .ref r_state, .ref r_step, .ref r_got, .ref r_latest, .ref r_begun, .ref r_asked, .ref r_again, .ref r_waitsFor, .ref r_since, .int m_clock, .ref r_wantCount, .ref r_want, .ref r_sendCount, .ref r_send, .ref r_owner, .ref r_value, .ref r_there, .ref r_lost, .int m_losing, .int m_changes, .ref r_changedBy, .ref r_changed, .ref r_before, .int m_logged, .ref r_log]))]) [0] (by decide) rfl
      exact W.iret (v := 0) hx hb hr (fun t ht hW => ⟨⟨0, 1, rfl, Or.inr ⟨rfl, by rcases hr_1 with ⟨e, _⟩ | ⟨_, h⟩; exact absurd (e.symm.trans c_2) (by decide); exact h⟩, by rw [ht]; exact hP9, hD9⟩, hS.F ht⟩) hS.2.2 dX6_value_36
  · refine lv_iconst (v := 0) hx hb dX6_value_11 (by decide) ?_
    refine lv_goto (tgt := 16) hx hb dX6_value_12 (by decide) ?_
    refine va_put (D := (dC, dI)) (ci := 6) (v := .int 0) (ty := .int) (C := RX6) (T := TX6) (N := 29) hx hb hts iX6_value_X6 tyX6 tyX6_ok nmX6 hown hKK.1 hP hD hS 0 rfl rfl 0 (by decide) (hts (.fieldLink RX6 80 "LendThreadsModel" "thrown" "I") (by decide +kernel)) (fun _ h9 => h9) rfl (by decide +kernel) rfl rfl (Nat.le_of_ble_eq_true rfl) dX6_value_16 (fun H locs hP hD hS => ?_)
    have hP : va_P (dC, dI) vwCl [(y, .inr (6, [.int 0, .int m_works, .ref r_steps, .ref r_failsAt, .ref r_state, .ref r_step, .ref r_got, .ref r_latest, .ref r_begun, .ref r_asked, .ref r_again, .ref r_waitsFor, .ref r_since, .int m_clock, .ref r_wantCount, .ref r_want, .ref r_sendCount, .ref r_send, .ref r_owner, .ref r_value, .ref r_there, .ref r_lost, .int m_losing, .int m_changes, .ref r_changedBy, .ref r_changed, .ref r_before, .int m_logged, .ref r_log])), (r_value, .inl (cI, 10, .inl f))] H := hP
    have hD : va_D A [(y, .inr (6, [.int 0, .int m_works, .ref r_steps, .ref r_failsAt, .ref r_state, .ref r_step, .ref r_got, .ref r_latest, .ref r_begun, .ref r_asked, .ref r_again, .ref r_waitsFor, .ref r_since, .int m_clock, .ref r_wantCount, .ref r_want, .ref r_sendCount, .ref r_send, .ref r_owner, .ref r_value, .ref r_there, .ref r_lost, .int m_losing, .int m_changes, .ref r_changedBy, .ref r_changed, .ref r_before, .int m_logged, .ref r_log])), (r_value, .inl (cI, 10, .inl f))] := hD
    refine lv_aload_n hx hb dX6_value_19 rfl (lv_at hl 0 rfl) ?_
    refine va_get (D := (dC, dI)) (ci := 6) (v := .int 0) (C := RX6) (T := TX6) (N := 29) hx hb hts iX6_value_X6 hown hKK.1 hP 0 rfl rfl 0 (by decide) (hts (.fieldLink RX6 80 "LendThreadsModel" "thrown" "I") (by decide +kernel)) (fun _ h9 => h9) rfl dX6_value_20 ?_
    refine lv_if_le (tgt := 30) hx hb dX6_value_23 (by decide) (fun c_4 => ?_) (fun c_4 => ?_)
    · refine lv_aload_n hx hb dX6_value_30 rfl (lv_at hl 0 rfl) ?_
      refine va_get (D := (dC, dI)) (ci := 6) (v := .ref r_value) (C := RX6) (T := TX6) (N := 29) hx hb hts iX6_value_X6 hown hKK.1 hP 0 rfl rfl 19 (by decide) (hts (.fieldLink RX6 59 "LendThreadsModel" "value" "[I") (by decide +kernel)) (fun _ h9 => h9) rfl dX6_value_31 ?_
      refine lv_iload_n hx hb dX6_value_34 rfl (lv_at hl 1 rfl) ?_
      refine va_iald hx hb hKK.1 hP 1 0 rfl rfl (by rcases hr_1 with ⟨_, a, b⟩ | ⟨e, _⟩; exact bn_in9 a b; exact absurd e c_2) dX6_value_35 ?_
      refine lv_topi (fun x_5 ex_5 => ?_)
      refine W.widen (k := 0) (n := 0) (by omega) (by omega) ?_
      have hP9 := hP.sub (ws' := [(y, .inr (6, [.int 0, .int m_works, .ref r_steps, .ref r_failsAt, .ref r_state, .ref r_step, .ref r_got, .ref r_latest, .ref r_begun, .ref r_asked, .ref r_again, .ref r_waitsFor, .ref r_since, .int m_clock, .ref r_wantCount, .ref r_want, .ref r_sendCount, .ref r_send, .ref r_owner, .ref r_value, .ref r_there, .ref r_lost, .int m_losing, .int m_changes, .ref r_changedBy, .ref r_changed, .ref r_before, .int m_logged, .ref r_log]))]) [0] rfl
      have hD9 := hD.sub (ws' := [(y, .inr (6, [.int 0, .int m_works, .ref r_steps, .ref r_failsAt, .ref r_state, .ref r_step, .ref r_got, .ref r_latest, .ref r_begun, .ref r_asked, .ref r_again, .ref r_waitsFor, .ref r_since, .int m_clock, .ref r_wantCount, .ref r_want, .ref r_sendCount, .ref r_send, .ref r_owner, .ref r_value, .ref r_there, .ref r_lost, .int m_losing, .int m_changes, .ref r_changedBy, .ref r_changed, .ref r_before, .int m_logged, .ref r_log]))]) [0] (by decide) rfl
      exact W.iret (v := x_5) hx hb hr (fun t ht hW => ⟨⟨x_5, 0, rfl, Or.inl ⟨rfl, by rcases hr_1 with ⟨_, h⟩ | ⟨e, _⟩; exact h; exact absurd e c_2, by rw [ex_5]; exact hf _ (bn_lt (n := 10) (by rcases hr_1 with ⟨_, a, b⟩ | ⟨e, _⟩; exact bn_in9 a b; exact absurd e c_2))⟩, by rw [ht]; exact hP9, hD9⟩, hS.F ht⟩) hS.2.2 dX6_value_36
    · exact absurd c_4 (by decide)
theorem bw_1 {r a b : Int32} (h : (r = 1 ∧ ¬ a < 1 ∧ ¬ 10 < a) ∨ (r = 0 ∧ (a < 1 ∨ 10 < a))) (c : r = 0) : a < 1 ∨ 10 < a ∨ b < -1 ∨ a ≤ b := by
  rcases h with ⟨e, _⟩ | ⟨_, h⟩
  · exact absurd (e.symm.trans c) (by decide)
  · rcases h with h | h
    · exact Or.inl h
    · exact Or.inr (Or.inl h)
theorem bw_2 {r r2 a b x : Int32} (h : (r = 1 ∧ ¬ a < 1 ∧ ¬ 10 < a) ∨ (r = 0 ∧ (a < 1 ∨ 10 < a))) (c : ¬ r = 0) (ex : x = a - 1) (h2 : (r2 = 1 ∧ ¬ b < -1 ∧ ¬ x < b) ∨ (r2 = 0 ∧ (b < -1 ∨ x < b))) (c2 : r2 = 0) : a < 1 ∨ 10 < a ∨ b < -1 ∨ a ≤ b := by
  rcases h with ⟨_, u, v⟩ | ⟨e, _⟩
  · rcases h2 with ⟨e, _⟩ | ⟨_, h2⟩
    · exact absurd (e.symm.trans c2) (by decide)
    · rcases h2 with h2 | h2
      · exact Or.inr (Or.inr (Or.inl h2))
      · rw [ex] at h2
        exact Or.inr (Or.inr (Or.inr ((bn_sub1 u v).mp h2)))
  · exact absurd e c
theorem bw_3 {r r2 a b x : Int32} (h : (r = 1 ∧ ¬ a < 1 ∧ ¬ 10 < a) ∨ (r = 0 ∧ (a < 1 ∨ 10 < a))) (c : ¬ r = 0) (ex : x = a - 1) (h2 : (r2 = 1 ∧ ¬ b < -1 ∧ ¬ x < b) ∨ (r2 = 0 ∧ (b < -1 ∨ x < b))) (c2 : ¬ r2 = 0) : ¬ a < 1 ∧ ¬ 10 < a ∧ ¬ b < -1 ∧ ¬ a ≤ b := by
  rcases h with ⟨_, u, v⟩ | ⟨e, _⟩
  · rcases h2 with ⟨_, p, q⟩ | ⟨e, _⟩
    · rw [ex] at q
      exact ⟨u, v, p, fun z => q ((bn_sub1 u v).mpr z)⟩
    · exact absurd e c2
  · exact absurd e c
theorem iX6_work_X6 : ∀ w ∈ u_ws RX6 TX6 29, w ∈ wsX6_work := by decide +kernel
set_option maxHeartbeats 4000000 in
set_option maxRecDepth 100000 in
/-- work, no works -/
theorem c_mwork0 (l : Launch) (dC : Nat → ClassId) (dI : Nat → Nat → Nat) (cI : ClassId) (sz : Nat) (y r_steps r_failsAt r_state r_step r_got r_latest r_begun r_asked r_again r_waitsFor r_since r_wantCount r_want r_sendCount r_send r_owner r_value r_there r_lost r_changedBy r_changed r_before r_log : Nat) (m_thrown m_clock m_losing m_changes m_logged : Int32) (f f2 : Nat → Int32) (a b : Int32) : Met l yX6_work wsX6_work ({ frames := 1, cells := 0, slots := 0, locals := 22 }) (uP dC dI cI [.ref y, .int a, .int b] [(y, .inr (6, [.int m_thrown, .int 0, .ref r_steps, .ref r_failsAt, .ref r_state, .ref r_step, .ref r_got, .ref r_latest, .ref r_begun, .ref r_asked, .ref r_again, .ref r_waitsFor, .ref r_since, .int m_clock, .ref r_wantCount, .ref r_want, .ref r_sendCount, .ref r_send, .ref r_owner, .ref r_value, .ref r_there, .ref r_lost, .int m_losing, .int m_changes, .ref r_changedBy, .ref r_changed, .ref r_before, .int m_logged, .ref r_log])), (r_steps, .inl (cI, 12, .inl f)), (r_failsAt, .inl (cI, 12, .inl f2))] sz) (va_Qi (fun r _ => (r = -2 ∧ (a < 1 ∨ 10 < a ∨ b < -1 ∨ a ≤ b)) ∨ (r = 0 ∧ ¬ a < 1 ∧ ¬ 10 < a ∧ ¬ b < -1 ∧ ¬ a ≤ b)) (fun (u : Unit) t => uB dC dI (va_A [(y, .inr (6, [.int m_thrown, .int 0, .ref r_steps, .ref r_failsAt, .ref r_state, .ref r_step, .ref r_got, .ref r_latest, .ref r_begun, .ref r_asked, .ref r_again, .ref r_waitsFor, .ref r_since, .int m_clock, .ref r_wantCount, .ref r_want, .ref r_sendCount, .ref r_send, .ref r_owner, .ref r_value, .ref r_there, .ref r_lost, .int m_losing, .int m_changes, .ref r_changedBy, .ref r_changed, .ref r_before, .int m_logged, .ref r_log])), (r_steps, .inl (cI, 12, .inl f)), (r_failsAt, .inl (cI, 12, .inl f2))] sz) [] t) (va_A [(y, .inr (6, [.int m_thrown, .int 0, .ref r_steps, .ref r_failsAt, .ref r_state, .ref r_step, .ref r_got, .ref r_latest, .ref r_begun, .ref r_asked, .ref r_again, .ref r_waitsFor, .ref r_since, .int m_clock, .ref r_wantCount, .ref r_want, .ref r_sendCount, .ref r_send, .ref r_owner, .ref r_value, .ref r_there, .ref r_lost, .int m_losing, .int m_changes, .ref r_changedBy, .ref r_changed, .ref r_before, .int m_logged, .ref r_log])), (r_steps, .inl (cI, 12, .inl f)), (r_failsAt, .inl (cI, 12, .inl f2))] sz)) 0 0 (va_A [(y, .inr (6, [.int m_thrown, .int 0, .ref r_steps, .ref r_failsAt, .ref r_state, .ref r_step, .ref r_got, .ref r_latest, .ref r_begun, .ref r_asked, .ref r_again, .ref r_waitsFor, .ref r_since, .int m_clock, .ref r_wantCount, .ref r_want, .ref r_sendCount, .ref r_send, .ref r_owner, .ref r_value, .ref r_there, .ref r_lost, .int m_losing, .int m_changes, .ref r_changedBy, .ref r_changed, .ref r_before, .int m_logged, .ref r_log])), (r_steps, .inl (cI, 12, .inl f)), (r_failsAt, .inl (cI, 12, .inl f2))] sz) := by
  refine Met.ofW (cc := cX6_work) (maxL := 3) (ret := (some .int)) (by decide) rfl ?_
  intro p e s m args below meth c s₁ B hml hv
  obtain ⟨rfl, hsz, hP, hKK, hD0⟩ := hv
  have hx := B.exec
  have hb := B.bytes
  have hr := B.returns
  have hts := atoms_spec (ws := wsX6_work) B.pre
  have hown : s.vm.findClass RX6 = some m.cls := findClass_of_methodNamed B.named
  have hlocks := B.notSynchronized
  subst hsz
  have hD := hD0.self (sz := s.heap.size)
  generalize hAe : va_A [(y, .inr (6, [.int m_thrown, .int 0, .ref r_steps, .ref r_failsAt, .ref r_state, .ref r_step, .ref r_got, .ref r_latest, .ref r_begun, .ref r_asked, .ref r_again, .ref r_waitsFor, .ref r_since, .int m_clock, .ref r_wantCount, .ref r_want, .ref r_sendCount, .ref r_send, .ref r_owner, .ref r_value, .ref r_there, .ref r_lost, .int m_losing, .int m_changes, .ref r_changedBy, .ref r_changed, .ref r_before, .int m_logged, .ref r_log])), (r_steps, .inl (cI, 12, .inl f)), (r_failsAt, .inl (cI, 12, .inl f2))] s.heap.size = A at hD ⊢
  have hA : ∀ q : Nat, s.heap.size ≤ q → A q := fun q h => by rw [← hAe]; exact Or.inr h
  have hS : va_S A s.heap s.heap [] := va_S.rf
  have hP : va_P (dC, dI) vwCl [(y, .inr (6, [.int m_thrown, .int 0, .ref r_steps, .ref r_failsAt, .ref r_state, .ref r_step, .ref r_got, .ref r_latest, .ref r_begun, .ref r_asked, .ref r_again, .ref r_waitsFor, .ref r_since, .int m_clock, .ref r_wantCount, .ref r_want, .ref r_sendCount, .ref r_send, .ref r_owner, .ref r_value, .ref r_there, .ref r_lost, .int m_losing, .int m_changes, .ref r_changedBy, .ref r_changed, .ref r_before, .int m_logged, .ref r_log])), (r_steps, .inl (cI, 12, .inl f)), (r_failsAt, .inl (cI, 12, .inl f2))] s.heap := hP
  have hl := lv_entry ([.ref y, .int a, .int b]) (n := 3) (Nat.le_of_ble_eq_true rfl)
  rw [lg_entry_eq]
  generalize (lg_sl ([.ref y, .int a, .int b]) ++ List.replicate (3 - (lg_sl ([.ref y, .int a, .int b])).length) Slot.unset).toArray = ls at hl ⊢
  have hl : lv_has ls 3 [(0, .ref y), (1, .int a), (2, .int b)] := hl
  refine lv_aload_n hx hb dX6_work_0 rfl (lv_at hl 0 rfl) ?_
  refine lv_iconst (v := 0) hx hb dX6_work_1 (by decide) ?_
  refine va_put (D := (dC, dI)) (ci := 6) (v := .int 0) (ty := .int) (C := RX6) (T := TX6) (N := 29) hx hb hts iX6_work_X6 tyX6 tyX6_ok nmX6 hown hKK.1 hP hD hS 0 rfl rfl 0 (by decide) (hts (.fieldLink RX6 80 "LendThreadsModel" "thrown" "I") (by decide +kernel)) (fun _ h9 => h9) rfl (by decide +kernel) rfl rfl (Nat.le_of_ble_eq_true rfl) dX6_work_2 (fun H locs hP hD hS => ?_)
  have hP : va_P (dC, dI) vwCl [(y, .inr (6, [.int 0, .int 0, .ref r_steps, .ref r_failsAt, .ref r_state, .ref r_step, .ref r_got, .ref r_latest, .ref r_begun, .ref r_asked, .ref r_again, .ref r_waitsFor, .ref r_since, .int m_clock, .ref r_wantCount, .ref r_want, .ref r_sendCount, .ref r_send, .ref r_owner, .ref r_value, .ref r_there, .ref r_lost, .int m_losing, .int m_changes, .ref r_changedBy, .ref r_changed, .ref r_before, .int m_logged, .ref r_log])), (r_steps, .inl (cI, 12, .inl f)), (r_failsAt, .inl (cI, 12, .inl f2))] H := hP
  have hD : va_D A [(y, .inr (6, [.int 0, .int 0, .ref r_steps, .ref r_failsAt, .ref r_state, .ref r_step, .ref r_got, .ref r_latest, .ref r_begun, .ref r_asked, .ref r_again, .ref r_waitsFor, .ref r_since, .int m_clock, .ref r_wantCount, .ref r_want, .ref r_sendCount, .ref r_send, .ref r_owner, .ref r_value, .ref r_there, .ref r_lost, .int m_losing, .int m_changes, .ref r_changedBy, .ref r_changed, .ref r_before, .int m_logged, .ref r_log])), (r_steps, .inl (cI, 12, .inl f)), (r_failsAt, .inl (cI, 12, .inl f2))] := hD
  refine lv_iload_n hx hb dX6_work_5 rfl (lv_at hl 1 rfl) ?_
  refine lv_iconst (v := 1) hx hb dX6_work_6 (by decide) ?_
  refine lv_bipush (v := 10) hx hb dX6_work_7 (by decide) ?_
  refine vp_callSi (va_Run.run (va_runS (As := [.int a, .int 1, .int 10]) (rest := []) ⟨hx, hb, hml, hown, hts⟩ (c_in l dC dI cI a 1 10) (va_cwS 3 hts gX6_work_X6_in rfl rfl rfl (by decide +kernel) ⟨Nat.le_of_ble_eq_true rfl, Nat.le_of_ble_eq_true rfl⟩) (rP_preS hKK (hP.sub (ws' := []) [] rfl)) rfl rfl hl.1 rfl (lv_room (Nat.le_of_ble_eq_true rfl)) dX6_work_9 ⟨(show 0 + 0 ≤ 0 by omega), (show 0 + 0 ≤ 0 by omega)⟩)) (fun r_1 hr_1 => ?_)
  refine lv_if_eq (tgt := 26) hx hb dX6_work_12 (by decide) (fun c_2 => ?_) (fun c_2 => ?_)
  · refine lv_bipush (v := (-2)) hx hb dX6_work_26 (by decide) ?_
    refine W.widen (k := 0) (n := 0) (by omega) (by omega) ?_
    have hP9 := hP.sub (ws' := []) [] rfl
    have hD9 := hD.sub (ws' := []) [] (by decide) rfl
    exact W.iret (v := (-2)) hx hb hr (fun t ht hW => ⟨⟨(-2), (), rfl, Or.inl ⟨rfl, bw_1 hr_1 c_2⟩, by rw [ht]; exact hP9, hD9⟩, hS.F ht⟩) hS.2.2 dX6_work_28
  · refine lv_iload_n hx hb dX6_work_15 rfl (lv_at hl 2 rfl) ?_
    refine lv_iconst (v := (-1)) hx hb dX6_work_16 (by decide) ?_
    refine lv_iload_n hx hb dX6_work_17 rfl (lv_at hl 1 rfl) ?_
    refine lv_iconst (v := 1) hx hb dX6_work_18 (by decide) ?_
    refine lv_isub hx hb dX6_work_19 ?_
    refine lv_topi (fun x_3 ex_3 => ?_)
    refine vp_callSi (va_Run.run (va_runS (As := [.int b, .int (-1), .int x_3]) (rest := []) ⟨hx, hb, hml, hown, hts⟩ (c_in l dC dI cI b (-1) x_3) (va_cwS 3 hts gX6_work_X6_in rfl rfl rfl (by decide +kernel) ⟨Nat.le_of_ble_eq_true rfl, Nat.le_of_ble_eq_true rfl⟩) (rP_preS hKK (hP.sub (ws' := []) [] rfl)) rfl rfl hl.1 rfl (lv_room (Nat.le_of_ble_eq_true rfl)) dX6_work_20 ⟨(show 0 + 0 ≤ 0 by omega), (show 0 + 0 ≤ 0 by omega)⟩)) (fun r_4 hr_4 => ?_)
    refine lv_if_ne (tgt := 29) hx hb dX6_work_23 (by decide) (fun c_5 => ?_) (fun c_5 => ?_)
    · refine lv_aload_n hx hb dX6_work_29 rfl (lv_at hl 0 rfl) ?_
      refine va_get (D := (dC, dI)) (ci := 6) (v := .int 0) (C := RX6) (T := TX6) (N := 29) hx hb hts iX6_work_X6 hown hKK.1 hP 0 rfl rfl 1 (by decide) (hts (.fieldLink RX6 84 "LendThreadsModel" "works" "I") (by decide +kernel)) (fun _ h9 => h9) rfl dX6_work_30 ?_
      refine lv_bipush (v := 12) hx hb dX6_work_33 (by decide) ?_
      refine lv_icmp_ne (tgt := 41) hx hb dX6_work_35 (by decide) (fun c_6 => ?_) (fun c_6 => ?_)
      · refine lv_aload_n hx hb dX6_work_41 rfl (lv_at hl 0 rfl) ?_
        refine va_get (D := (dC, dI)) (ci := 6) (v := .ref r_steps) (C := RX6) (T := TX6) (N := 29) hx hb hts iX6_work_X6 hown hKK.1 hP 0 rfl rfl 2 (by decide) (hts (.fieldLink RX6 7 "LendThreadsModel" "steps" "[I") (by decide +kernel)) (fun _ h9 => h9) rfl dX6_work_42 ?_
        refine lv_aload_n hx hb dX6_work_45 rfl (lv_at hl 0 rfl) ?_
        refine va_get (D := (dC, dI)) (ci := 6) (v := .int 0) (C := RX6) (T := TX6) (N := 29) hx hb hts iX6_work_X6 hown hKK.1 hP 0 rfl rfl 1 (by decide) (hts (.fieldLink RX6 84 "LendThreadsModel" "works" "I") (by decide +kernel)) (fun _ h9 => h9) rfl dX6_work_46 ?_
        refine lv_iload_n hx hb dX6_work_49 rfl (lv_at hl 1 rfl) ?_
        refine va_iast hx hb hKK.1 hP hD hS 1 0 rfl rfl (vp_in_iff.mpr (by decide)) dX6_work_50 (fun H locs hP hD hS => ?_)
        have hP : va_P (dC, dI) vwCl [(y, .inr (6, [.int 0, .int 0, .ref r_steps, .ref r_failsAt, .ref r_state, .ref r_step, .ref r_got, .ref r_latest, .ref r_begun, .ref r_asked, .ref r_again, .ref r_waitsFor, .ref r_since, .int m_clock, .ref r_wantCount, .ref r_want, .ref r_sendCount, .ref r_send, .ref r_owner, .ref r_value, .ref r_there, .ref r_lost, .int m_losing, .int m_changes, .ref r_changedBy, .ref r_changed, .ref r_before, .int m_logged, .ref r_log])), (r_steps, .inl (cI, 12, .inl (upd f (0 : Int32).toNatClampNeg a))), (r_failsAt, .inl (cI, 12, .inl f2))] H := hP
        have hD : va_D A [(y, .inr (6, [.int 0, .int 0, .ref r_steps, .ref r_failsAt, .ref r_state, .ref r_step, .ref r_got, .ref r_latest, .ref r_begun, .ref r_asked, .ref r_again, .ref r_waitsFor, .ref r_since, .int m_clock, .ref r_wantCount, .ref r_want, .ref r_sendCount, .ref r_send, .ref r_owner, .ref r_value, .ref r_there, .ref r_lost, .int m_losing, .int m_changes, .ref r_changedBy, .ref r_changed, .ref r_before, .int m_logged, .ref r_log])), (r_steps, .inl (cI, 12, .inl (upd f (0 : Int32).toNatClampNeg a))), (r_failsAt, .inl (cI, 12, .inl f2))] := hD
        refine lv_aload_n hx hb dX6_work_51 rfl (lv_at hl 0 rfl) ?_
        refine va_get (D := (dC, dI)) (ci := 6) (v := .ref r_failsAt) (C := RX6) (T := TX6) (N := 29) hx hb hts iX6_work_X6 hown hKK.1 hP 0 rfl rfl 3 (by decide) (hts (.fieldLink RX6 13 "LendThreadsModel" "failsAt" "[I") (by decide +kernel)) (fun _ h9 => h9) rfl dX6_work_52 ?_
        refine lv_aload_n hx hb dX6_work_55 rfl (lv_at hl 0 rfl) ?_
        refine va_get (D := (dC, dI)) (ci := 6) (v := .int 0) (C := RX6) (T := TX6) (N := 29) hx hb hts iX6_work_X6 hown hKK.1 hP 0 rfl rfl 1 (by decide) (hts (.fieldLink RX6 84 "LendThreadsModel" "works" "I") (by decide +kernel)) (fun _ h9 => h9) rfl dX6_work_56 ?_
        refine lv_iload_n hx hb dX6_work_59 rfl (lv_at hl 2 rfl) ?_
        refine va_iast hx hb hKK.1 hP hD hS 2 0 rfl rfl (vp_in_iff.mpr (by decide)) dX6_work_60 (fun H locs hP hD hS => ?_)
        have hP : va_P (dC, dI) vwCl [(y, .inr (6, [.int 0, .int 0, .ref r_steps, .ref r_failsAt, .ref r_state, .ref r_step, .ref r_got, .ref r_latest, .ref r_begun, .ref r_asked, .ref r_again, .ref r_waitsFor, .ref r_since, .int m_clock, .ref r_wantCount, .ref r_want, .ref r_sendCount, .ref r_send, .ref r_owner, .ref r_value, .ref r_there, .ref r_lost, .int m_losing, .int m_changes, .ref r_changedBy, .ref r_changed, .ref r_before, .int m_logged, .ref r_log])), (r_steps, .inl (cI, 12, .inl (upd f (0 : Int32).toNatClampNeg a))), (r_failsAt, .inl (cI, 12, .inl (upd f2 (0 : Int32).toNatClampNeg b)))] H := hP
        have hD : va_D A [(y, .inr (6, [.int 0, .int 0, .ref r_steps, .ref r_failsAt, .ref r_state, .ref r_step, .ref r_got, .ref r_latest, .ref r_begun, .ref r_asked, .ref r_again, .ref r_waitsFor, .ref r_since, .int m_clock, .ref r_wantCount, .ref r_want, .ref r_sendCount, .ref r_send, .ref r_owner, .ref r_value, .ref r_there, .ref r_lost, .int m_losing, .int m_changes, .ref r_changedBy, .ref r_changed, .ref r_before, .int m_logged, .ref r_log])), (r_steps, .inl (cI, 12, .inl (upd f (0 : Int32).toNatClampNeg a))), (r_failsAt, .inl (cI, 12, .inl (upd f2 (0 : Int32).toNatClampNeg b)))] := hD
        refine lv_aload_n hx hb dX6_work_61 rfl (lv_at hl 0 rfl) ?_
        refine lv_dup hx hb dX6_work_62 rfl ?_
        refine va_get (D := (dC, dI)) (ci := 6) (v := .int 0) (C := RX6) (T := TX6) (N := 29) hx hb hts iX6_work_X6 hown hKK.1 hP 0 rfl rfl 1 (by decide) (hts (.fieldLink RX6 84 "LendThreadsModel" "works" "I") (by decide +kernel)) (fun _ h9 => h9) rfl dX6_work_63 ?_
        refine lv_iconst (v := 1) hx hb dX6_work_66 (by decide) ?_
        refine lv_iadd hx hb dX6_work_67 ?_
        refine lv_topi (fun x_7 ex_7 => ?_)
        obtain rfl : x_7 = 1 := by rw [ex_7]; decide
        refine va_put (D := (dC, dI)) (ci := 6) (v := .int 1) (ty := .int) (C := RX6) (T := TX6) (N := 29) hx hb hts iX6_work_X6 tyX6 tyX6_ok nmX6 hown hKK.1 hP hD hS 0 rfl rfl 1 (by decide) (hts (.fieldLink RX6 84 "LendThreadsModel" "works" "I") (by decide +kernel)) (fun _ h9 => h9) rfl (by decide +kernel) rfl rfl (Nat.le_of_ble_eq_true rfl) dX6_work_68 (fun H locs hP hD hS => ?_)
        have hP : va_P (dC, dI) vwCl [(y, .inr (6, [.int 0, .int 1, .ref r_steps, .ref r_failsAt, .ref r_state, .ref r_step, .ref r_got, .ref r_latest, .ref r_begun, .ref r_asked, .ref r_again, .ref r_waitsFor, .ref r_since, .int m_clock, .ref r_wantCount, .ref r_want, .ref r_sendCount, .ref r_send, .ref r_owner, .ref r_value, .ref r_there, .ref r_lost, .int m_losing, .int m_changes, .ref r_changedBy, .ref r_changed, .ref r_before, .int m_logged, .ref r_log])), (r_steps, .inl (cI, 12, .inl (upd f (0 : Int32).toNatClampNeg a))), (r_failsAt, .inl (cI, 12, .inl (upd f2 (0 : Int32).toNatClampNeg b)))] H := hP
        have hD : va_D A [(y, .inr (6, [.int 0, .int 1, .ref r_steps, .ref r_failsAt, .ref r_state, .ref r_step, .ref r_got, .ref r_latest, .ref r_begun, .ref r_asked, .ref r_again, .ref r_waitsFor, .ref r_since, .int m_clock, .ref r_wantCount, .ref r_want, .ref r_sendCount, .ref r_send, .ref r_owner, .ref r_value, .ref r_there, .ref r_lost, .int m_losing, .int m_changes, .ref r_changedBy, .ref r_changed, .ref r_before, .int m_logged, .ref r_log])), (r_steps, .inl (cI, 12, .inl (upd f (0 : Int32).toNatClampNeg a))), (r_failsAt, .inl (cI, 12, .inl (upd f2 (0 : Int32).toNatClampNeg b)))] := hD
        refine lv_aload_n hx hb dX6_work_71 rfl (lv_at hl 0 rfl) ?_
        refine va_get (D := (dC, dI)) (ci := 6) (v := .int 1) (C := RX6) (T := TX6) (N := 29) hx hb hts iX6_work_X6 hown hKK.1 hP 0 rfl rfl 1 (by decide) (hts (.fieldLink RX6 84 "LendThreadsModel" "works" "I") (by decide +kernel)) (fun _ h9 => h9) rfl dX6_work_72 ?_
        refine lv_iconst (v := 1) hx hb dX6_work_75 (by decide) ?_
        refine lv_isub hx hb dX6_work_76 ?_
        refine lv_topi (fun x_8 ex_8 => ?_)
        obtain rfl : x_8 = 0 := by rw [ex_8]; decide
        refine W.widen (k := 0) (n := 0) (by omega) (by omega) ?_
        have hP9 := hP.sub (ws' := []) [] rfl
        have hD9 := hD.sub (ws' := []) [] (by decide) rfl
        exact W.iret (v := 0) hx hb hr (fun t ht hW => ⟨⟨0, (), rfl, Or.inr ⟨rfl, bw_3 hr_1 c_2 ex_3 hr_4 c_5⟩, by rw [ht]; exact hP9, hD9⟩, hS.F ht⟩) hS.2.2 dX6_work_77
      · exact absurd c_6 (by decide)
    · refine lv_bipush (v := (-2)) hx hb dX6_work_26 (by decide) ?_
      refine W.widen (k := 0) (n := 0) (by omega) (by omega) ?_
      have hP9 := hP.sub (ws' := []) [] rfl
      have hD9 := hD.sub (ws' := []) [] (by decide) rfl
      exact W.iret (v := (-2)) hx hb hr (fun t ht hW => ⟨⟨(-2), (), rfl, Or.inl ⟨rfl, bw_2 hr_1 c_2 ex_3 hr_4 c_5⟩, by rw [ht]; exact hP9, hD9⟩, hS.F ht⟩) hS.2.2 dX6_work_28
