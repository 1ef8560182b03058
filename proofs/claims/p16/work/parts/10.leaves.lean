theorem bn_neg1 {x : Int32} (h1 : ¬ x < 0) (h2 : ¬ (-1 : Int32) < x) : False := by
  rw [Int32.lt_iff_toInt_lt] at h1 h2
  have e1 : (-1 : Int32).toInt = -1 := by decide
  have e0 : (0 : Int32).toInt = 0 := by decide
  omega
theorem bn_lt {x : Int32} {n : Nat} (h : vp_in x n) : x.toNatClampNeg < n := Nat.not_le.mp fun q => h (Or.inr q)
theorem bn_in {x : Int32} {n : Nat} (hn : n < 2 ^ 31) (h1 : ¬ x < 0) (h2 : ¬ nI n ≤ x) : vp_in x n := by
  rw [vp_in_iff]
  rw [Int32.lt_iff_toInt_lt] at h1
  rw [Int32.le_iff_toInt_le, nI_toInt hn] at h2
  have e0 : (0 : Int32).toInt = 0 := by decide
  omega
set_option maxHeartbeats 4000000 in
set_option maxRecDepth 100000 in
/-- isCopy -/
theorem c_isCopy (l : Launch) (dC : Nat → ClassId) (dI : Nat → Nat → Nat) (cI : ClassId) (v : Int32) : Met l yX5_isCopy wsX5_isCopy ({ frames := 0, cells := 0, slots := 0, locals := 0 }) (rP dC dI cI [.int v] []) (vp_Si (fun r => (r = 1 ∧ ¬ v < 0 ∧ ¬ 10 ≤ v) ∨ (r = 0 ∧ (v < 0 ∨ 10 ≤ v)))) 0 0 (fun _ => False) := by
  refine Met.ofW (cc := cX5_isCopy) (maxL := 1) (ret := (some .boolean)) (by decide) rfl ?_
  intro p e s m args below meth c s₁ B hml hv
  obtain ⟨rfl, hP, hKK⟩ := hv
  have hx := B.exec
  have hb := B.bytes
  have hr := B.returns
  have hts := atoms_spec (ws := wsX5_isCopy) B.pre
  have hown : s.vm.findClass RX5 = some m.cls := findClass_of_methodNamed B.named
  have hlocks := B.notSynchronized
  have hP : va_P (dC, dI) vwCl [] s.heap := hP
  have hl := lv_entry ([.int v]) (n := 1) (Nat.le_of_ble_eq_true rfl)
  rw [lg_entry_eq]
  generalize (lg_sl ([.int v]) ++ List.replicate (1 - (lg_sl ([.int v])).length) Slot.unset).toArray = ls at hl ⊢
  have hl : lv_has ls 1 [(0, .int v)] := hl
  refine lv_iload_n hx hb dX5_isCopy_0 rfl (lv_at hl 0 rfl) ?_
  refine lv_if_lt (tgt := 14) hx hb dX5_isCopy_1 (by decide) (fun c_1 => ?_) (fun c_1 => ?_)
  · refine lv_iconst (v := 0) hx hb dX5_isCopy_14 (by decide) ?_
    exact W.zret (v := 0) (ty := .boolean) hx hb hr (by rfl) (fun t ht hW => ⟨0, rfl, by simp [c_1], ht⟩) (fun _ h => by cases h) dX5_isCopy_15
  · refine lv_iload_n hx hb dX5_isCopy_4 rfl (lv_at hl 0 rfl) ?_
    refine lv_bipush (v := 10) hx hb dX5_isCopy_5 (by decide) ?_
    refine lv_icmp_ge (tgt := 14) hx hb dX5_isCopy_7 (by decide) (fun c_2 => ?_) (fun c_2 => ?_)
    · refine lv_iconst (v := 0) hx hb dX5_isCopy_14 (by decide) ?_
      exact W.zret (v := 0) (ty := .boolean) hx hb hr (by rfl) (fun t ht hW => ⟨0, rfl, by simp [c_1, c_2], ht⟩) (fun _ h => by cases h) dX5_isCopy_15
    · refine lv_iconst (v := 1) hx hb dX5_isCopy_10 (by decide) ?_
      refine lv_goto (tgt := 15) hx hb dX5_isCopy_11 (by decide) ?_
      exact W.zret (v := 1) (ty := .boolean) hx hb hr (by rfl) (fun t ht hW => ⟨1, rfl, by simp [c_1, c_2], ht⟩) (fun _ h => by cases h) dX5_isCopy_15
set_option maxHeartbeats 4000000 in
set_option maxRecDepth 100000 in
/-- in -/
theorem c_in (l : Launch) (dC : Nat → ClassId) (dI : Nat → Nat → Nat) (cI : ClassId) (v lo hi : Int32) : Met l yX6_in wsX6_in ({ frames := 0, cells := 0, slots := 0, locals := 0 }) (rP dC dI cI [.int v, .int lo, .int hi] []) (vp_Si (fun r => (r = 1 ∧ ¬ v < lo ∧ ¬ hi < v) ∨ (r = 0 ∧ (v < lo ∨ hi < v)))) 0 0 (fun _ => False) := by
  refine Met.ofW (cc := cX6_in) (maxL := 3) (ret := (some .boolean)) (by decide) rfl ?_
  intro p e s m args below meth c s₁ B hml hv
  obtain ⟨rfl, hP, hKK⟩ := hv
  have hx := B.exec
  have hb := B.bytes
  have hr := B.returns
  have hts := atoms_spec (ws := wsX6_in) B.pre
  have hown : s.vm.findClass RX6 = some m.cls := findClass_of_methodNamed B.named
  have hlocks := B.notSynchronized
  have hP : va_P (dC, dI) vwCl [] s.heap := hP
  have hl := lv_entry ([.int v, .int lo, .int hi]) (n := 3) (Nat.le_of_ble_eq_true rfl)
  rw [lg_entry_eq]
  generalize (lg_sl ([.int v, .int lo, .int hi]) ++ List.replicate (3 - (lg_sl ([.int v, .int lo, .int hi])).length) Slot.unset).toArray = ls at hl ⊢
  have hl : lv_has ls 3 [(0, .int v), (1, .int lo), (2, .int hi)] := hl
  refine lv_iload_n hx hb dX6_in_0 rfl (lv_at hl 0 rfl) ?_
  refine lv_iload_n hx hb dX6_in_1 rfl (lv_at hl 1 rfl) ?_
  refine lv_icmp_lt (tgt := 14) hx hb dX6_in_2 (by decide) (fun c_1 => ?_) (fun c_1 => ?_)
  · refine lv_iconst (v := 0) hx hb dX6_in_14 (by decide) ?_
    exact W.zret (v := 0) (ty := .boolean) hx hb hr (by rfl) (fun t ht hW => ⟨0, rfl, by simp [c_1], ht⟩) (fun _ h => by cases h) dX6_in_15
  · refine lv_iload_n hx hb dX6_in_5 rfl (lv_at hl 0 rfl) ?_
    refine lv_iload_n hx hb dX6_in_6 rfl (lv_at hl 2 rfl) ?_
    refine lv_icmp_gt (tgt := 14) hx hb dX6_in_7 (by decide) (fun c_2 => ?_) (fun c_2 => ?_)
    · refine lv_iconst (v := 0) hx hb dX6_in_14 (by decide) ?_
      exact W.zret (v := 0) (ty := .boolean) hx hb hr (by rfl) (fun t ht hW => ⟨0, rfl, by simp [c_1, c_2], ht⟩) (fun _ h => by cases h) dX6_in_15
    · refine lv_iconst (v := 1) hx hb dX6_in_10 (by decide) ?_
      refine lv_goto (tgt := 15) hx hb dX6_in_11 (by decide) ?_
      exact W.zret (v := 1) (ty := .boolean) hx hb hr (by rfl) (fun t ht hW => ⟨1, rfl, by simp [c_1, c_2], ht⟩) (fun _ h => by cases h) dX6_in_15
theorem iX2_count_X2 : ∀ w ∈ u_ws RX2 TX2 3, w ∈ wsX2_count := by decide +kernel
set_option maxHeartbeats 4000000 in
set_option maxRecDepth 100000 in
/-- Rows.count -/
theorem c_Rows_count (l : Launch) (dC : Nat → ClassId) (dI : Nat → Nat → Nat) (cI : ClassId) (h0 h1 h2 : Nat) (room : Int32) (n : Nat) (f : Nat → Int32) (hn : n < 2 ^ 31) (v : Int32) : Met l yX2_count wsX2_count ({ frames := 0, cells := 0, slots := 0, locals := 0 }) (rP dC dI cI [.ref h0, .int v] [(h0, .inr (2, [.int room, .ref h1, .ref h2])), (h1, .inl (cI, n, .inl f))]) (vp_Si (fun r => (¬ v < 0 ∧ ¬ nI n ≤ v ∧ r = f v.toNatClampNeg) ∨ (r = 0 ∧ (v < 0 ∨ nI n ≤ v)))) 0 0 (fun _ => False) := by
  refine Met.ofW (cc := cX2_count) (maxL := 2) (ret := (some .int)) (by decide) rfl ?_
  intro p e s m args below meth c s₁ B hml hv
  obtain ⟨rfl, hP, hKK⟩ := hv
  have hx := B.exec
  have hb := B.bytes
  have hr := B.returns
  have hts := atoms_spec (ws := wsX2_count) B.pre
  have hown : s.vm.findClass RX2 = some m.cls := findClass_of_methodNamed B.named
  have hlocks := B.notSynchronized
  have hP : va_P (dC, dI) vwCl [(h0, .inr (2, [.int room, .ref h1, .ref h2])), (h1, .inl (cI, n, .inl f))] s.heap := hP
  have hl := lv_entry ([.ref h0, .int v]) (n := 2) (Nat.le_of_ble_eq_true rfl)
  rw [lg_entry_eq]
  generalize (lg_sl ([.ref h0, .int v]) ++ List.replicate (2 - (lg_sl ([.ref h0, .int v])).length) Slot.unset).toArray = ls at hl ⊢
  have hl : lv_has ls 2 [(0, .ref h0), (1, .int v)] := hl
  refine lv_iload_n hx hb dX2_count_0 rfl (lv_at hl 1 rfl) ?_
  refine lv_if_lt (tgt := 22) hx hb dX2_count_1 (by decide) (fun c_1 => ?_) (fun c_1 => ?_)
  · refine lv_iconst (v := 0) hx hb dX2_count_22 (by decide) ?_
    exact W.iret (v := 0) hx hb hr (fun t ht hW => ⟨0, rfl, Or.inr ⟨rfl, Or.inl c_1⟩, ht⟩) (fun _ h => by cases h) dX2_count_23
  · refine lv_iload_n hx hb dX2_count_4 rfl (lv_at hl 1 rfl) ?_
    refine lv_aload_n hx hb dX2_count_5 rfl (lv_at hl 0 rfl) ?_
    refine va_get (D := (dC, dI)) (ci := 2) (v := .ref h1) (C := RX2) (T := TX2) (N := 3) hx hb hts iX2_count_X2 hown hKK.1 hP 0 rfl rfl 1 (by decide) (hts (.fieldLink RX2 15 "LendThreads$Rows" "counts" "[I") (by decide +kernel)) (fun _ h9 => h9) rfl dX2_count_6 ?_
    refine va_alen (v := nI n) hx hb hKK.1 hP 1 0 rfl rfl rfl dX2_count_9 ?_
    refine lv_icmp_ge (tgt := 22) hx hb dX2_count_10 (by decide) (fun c_3 => ?_) (fun c_3 => ?_)
    · refine lv_iconst (v := 0) hx hb dX2_count_22 (by decide) ?_
      exact W.iret (v := 0) hx hb hr (fun t ht hW => ⟨0, rfl, Or.inr ⟨rfl, Or.inr c_3⟩, ht⟩) (fun _ h => by cases h) dX2_count_23
    · refine lv_aload_n hx hb dX2_count_13 rfl (lv_at hl 0 rfl) ?_
      refine va_get (D := (dC, dI)) (ci := 2) (v := .ref h1) (C := RX2) (T := TX2) (N := 3) hx hb hts iX2_count_X2 hown hKK.1 hP 0 rfl rfl 1 (by decide) (hts (.fieldLink RX2 15 "LendThreads$Rows" "counts" "[I") (by decide +kernel)) (fun _ h9 => h9) rfl dX2_count_14 ?_
      refine lv_iload_n hx hb dX2_count_17 rfl (lv_at hl 1 rfl) ?_
      refine va_iald hx hb hKK.1 hP 1 0 rfl rfl (bn_in hn c_1 c_3) dX2_count_18 ?_
      refine lv_topi (fun x_4 ex_4 => ?_)
      refine lv_goto (tgt := 23) hx hb dX2_count_19 (by decide) ?_
      exact W.iret (v := x_4) hx hb hr (fun t ht hW => ⟨x_4, rfl, Or.inl ⟨c_1, c_3, ex_4⟩, ht⟩) (fun _ h => by cases h) dX2_count_23
set_option maxHeartbeats 4000000 in
set_option maxRecDepth 100000 in
/-- Rows.item, nothing in the rows -/
theorem c_Rows_item0 (l : Launch) (dC : Nat → ClassId) (dI : Nat → Nat → Nat) (cI : ClassId) (h0 h1 h2 : Nat) (room : Int32) (n : Nat) (f : Nat → Int32) (hn : n < 2 ^ 31) (hf : ∀ j, f j = 0) (v i : Int32) : Met l yX2_item wsX2_item ({ frames := 1, cells := 0, slots := 0, locals := 21 }) (rP dC dI cI [.ref h0, .int v, .int i] [(h0, .inr (2, [.int room, .ref h1, .ref h2])), (h1, .inl (cI, n, .inl f))]) (vp_Si (fun r => r = -1)) 0 0 (fun _ => False) := by
  refine Met.ofW (cc := cX2_item) (maxL := 3) (ret := (some .int)) (by decide) rfl ?_
  intro p e s m args below meth c s₁ B hml hv
  obtain ⟨rfl, hP, hKK⟩ := hv
  have hx := B.exec
  have hb := B.bytes
  have hr := B.returns
  have hts := atoms_spec (ws := wsX2_item) B.pre
  have hown : s.vm.findClass RX2 = some m.cls := findClass_of_methodNamed B.named
  have hlocks := B.notSynchronized
  have hP : va_P (dC, dI) vwCl [(h0, .inr (2, [.int room, .ref h1, .ref h2])), (h1, .inl (cI, n, .inl f))] s.heap := hP
  have hl := lv_entry ([.ref h0, .int v, .int i]) (n := 3) (Nat.le_of_ble_eq_true rfl)
  rw [lg_entry_eq]
  generalize (lg_sl ([.ref h0, .int v, .int i]) ++ List.replicate (3 - (lg_sl ([.ref h0, .int v, .int i])).length) Slot.unset).toArray = ls at hl ⊢
  have hl : lv_has ls 3 [(0, .ref h0), (1, .int v), (2, .int i)] := hl
  refine lv_iload_n hx hb dX2_item_0 rfl (lv_at hl 2 rfl) ?_
  refine lv_if_lt (tgt := 29) hx hb dX2_item_1 (by decide) (fun c_1 => ?_) (fun c_1 => ?_)
  · refine lv_iconst (v := (-1)) hx hb dX2_item_29 (by decide) ?_
    exact W.iret (v := (-1)) hx hb hr (fun t ht hW => ⟨(-1), rfl, rfl, ht⟩) (fun _ h => by cases h) dX2_item_30
  · refine lv_iload_n hx hb dX2_item_4 rfl (lv_at hl 2 rfl) ?_
    refine lv_aload_n hx hb dX2_item_5 rfl (lv_at hl 0 rfl) ?_
    refine lv_iload_n hx hb dX2_item_6 rfl (lv_at hl 1 rfl) ?_
    refine vp_callSi (va_Run.run (va_runV (As := [.int v]) (rest := [.int i]) ⟨hx, hb, hml, hown, hts⟩ (c_Rows_count l dC dI cI h0 h1 h2 room n f hn v) (cwV 1 hts gX2_item_X2_count rfl rfl rfl (by decide +kernel) ⟨Nat.le_of_ble_eq_true rfl, Nat.le_of_ble_eq_true rfl⟩) (rP_preV hKK (hP.sub (ws' := [(h0, .inr (2, [.int room, .ref h1, .ref h2])), (h1, .inl (cI, n, .inl f))]) [0, 1] rfl) (va_recv hKK.1 hP (ci := 2) (q0 := 0) rfl rfl)) rfl rfl hl.1 rfl (lv_room (Nat.le_of_ble_eq_true rfl)) dX2_item_7 ⟨Nat.zero_le _, Nat.zero_le _⟩)) (fun r_2 hr_2 => ?_)
    obtain rfl : r_2 = 0 := by rcases hr_2 with ⟨a, b, e⟩ | ⟨e, _⟩ <;> rw [e]; exact hf _
    refine lv_icmp_ge (tgt := 29) hx hb dX2_item_10 (by decide) (fun c_3 => ?_) (fun c_3 => ?_)
    · refine lv_iconst (v := (-1)) hx hb dX2_item_29 (by decide) ?_
      exact W.iret (v := (-1)) hx hb hr (fun t ht hW => ⟨(-1), rfl, rfl, ht⟩) (fun _ h => by cases h) dX2_item_30
    · exact absurd (Int32.not_lt.mp c_1) c_3
theorem iX5_isWork_X5 : ∀ w ∈ u_ws RX5 TX5 5, w ∈ wsX5_isWork := by decide +kernel
set_option maxHeartbeats 4000000 in
set_option maxRecDepth 100000 in
/-- isWork -/
theorem c_isWork (l : Launch) (dC : Nat → ClassId) (dI : Nat → Nat → Nat) (cI : ClassId) (x wa sh po di : Nat) (wc v : Int32) : Met l yX5_isWork wsX5_isWork ({ frames := 0, cells := 0, slots := 0, locals := 0 }) (rP dC dI cI [.ref x, .int v] [(x, .inr (5, [.ref wa, .int wc, .ref sh, .ref po, .ref di]))]) (vp_Si (fun r => (r = 1 ∧ ¬ v < 0 ∧ ¬ wc ≤ v) ∨ (r = 0 ∧ (v < 0 ∨ wc ≤ v)))) 0 0 (fun _ => False) := by
  refine Met.ofW (cc := cX5_isWork) (maxL := 2) (ret := (some .boolean)) (by decide) rfl ?_
  intro p e s m args below meth c s₁ B hml hv
  obtain ⟨rfl, hP, hKK⟩ := hv
  have hx := B.exec
  have hb := B.bytes
  have hr := B.returns
  have hts := atoms_spec (ws := wsX5_isWork) B.pre
  have hown : s.vm.findClass RX5 = some m.cls := findClass_of_methodNamed B.named
  have hlocks := B.notSynchronized
  have hP : va_P (dC, dI) vwCl [(x, .inr (5, [.ref wa, .int wc, .ref sh, .ref po, .ref di]))] s.heap := hP
  have hl := lv_entry ([.ref x, .int v]) (n := 2) (Nat.le_of_ble_eq_true rfl)
  rw [lg_entry_eq]
  generalize (lg_sl ([.ref x, .int v]) ++ List.replicate (2 - (lg_sl ([.ref x, .int v])).length) Slot.unset).toArray = ls at hl ⊢
  have hl : lv_has ls 2 [(0, .ref x), (1, .int v)] := hl
  refine lv_iload_n hx hb dX5_isWork_0 rfl (lv_at hl 1 rfl) ?_
  refine lv_if_lt (tgt := 16) hx hb dX5_isWork_1 (by decide) (fun c_1 => ?_) (fun c_1 => ?_)
  · refine lv_iconst (v := 0) hx hb dX5_isWork_16 (by decide) ?_
    exact W.zret (v := 0) (ty := .boolean) hx hb hr (by rfl) (fun t ht hW => ⟨0, rfl, by simp [c_1], ht⟩) (fun _ h => by cases h) dX5_isWork_17
  · refine lv_iload_n hx hb dX5_isWork_4 rfl (lv_at hl 1 rfl) ?_
    refine lv_aload_n hx hb dX5_isWork_5 rfl (lv_at hl 0 rfl) ?_
    refine va_get (D := (dC, dI)) (ci := 5) (v := .int wc) (C := RX5) (T := TX5) (N := 5) hx hb hts iX5_isWork_X5 hown hKK.1 hP 0 rfl rfl 1 (by decide) (hts (.fieldLink RX5 39 "LendThreads" "workCount" "I") (by decide +kernel)) (fun _ h9 => h9) rfl dX5_isWork_6 ?_
    refine lv_icmp_ge (tgt := 16) hx hb dX5_isWork_9 (by decide) (fun c_2 => ?_) (fun c_2 => ?_)
    · refine lv_iconst (v := 0) hx hb dX5_isWork_16 (by decide) ?_
      exact W.zret (v := 0) (ty := .boolean) hx hb hr (by rfl) (fun t ht hW => ⟨0, rfl, by simp [c_1, c_2], ht⟩) (fun _ h => by cases h) dX5_isWork_17
    · refine lv_iconst (v := 1) hx hb dX5_isWork_12 (by decide) ?_
      refine lv_goto (tgt := 17) hx hb dX5_isWork_13 (by decide) ?_
      exact W.zret (v := 1) (ty := .boolean) hx hb hr (by rfl) (fun t ht hW => ⟨1, rfl, by simp [c_1, c_2], ht⟩) (fun _ h => by cases h) dX5_isWork_17
set_option maxHeartbeats 4000000 in
set_option maxRecDepth 100000 in
/-- find, no works -/
theorem c_find0 (l : Launch) (dC : Nat → ClassId) (dI : Nat → Nat → Nat) (cI : ClassId) (x wa sh po di : Nat) (v : Int32) : Met l yX5_find wsX5_find ({ frames := 1, cells := 0, slots := 0, locals := 21 }) (rP dC dI cI [.ref x, .int v] [(x, .inr (5, [.ref wa, .int 0, .ref sh, .ref po, .ref di]))]) (va_Sq (fun r => r = none)) 0 0 (fun _ => False) := by
  refine Met.ofW (cc := cX5_find) (maxL := 2) (ret := (some (.object "LendThreads$Work"))) (by decide) rfl ?_
  intro p e s m args below meth c s₁ B hml hv
  obtain ⟨rfl, hP, hKK⟩ := hv
  have hx := B.exec
  have hb := B.bytes
  have hr := B.returns
  have hts := atoms_spec (ws := wsX5_find) B.pre
  have hown : s.vm.findClass RX5 = some m.cls := findClass_of_methodNamed B.named
  have hlocks := B.notSynchronized
  have hP : va_P (dC, dI) vwCl [(x, .inr (5, [.ref wa, .int 0, .ref sh, .ref po, .ref di]))] s.heap := hP
  have hl := lv_entry ([.ref x, .int v]) (n := 2) (Nat.le_of_ble_eq_true rfl)
  rw [lg_entry_eq]
  generalize (lg_sl ([.ref x, .int v]) ++ List.replicate (2 - (lg_sl ([.ref x, .int v])).length) Slot.unset).toArray = ls at hl ⊢
  have hl : lv_has ls 2 [(0, .ref x), (1, .int v)] := hl
  refine lv_aload_n hx hb dX5_find_0 rfl (lv_at hl 0 rfl) ?_
  refine lv_iload_n hx hb dX5_find_1 rfl (lv_at hl 1 rfl) ?_
  refine vp_callSi (va_Run.run (va_runV (As := [.int v]) (rest := []) ⟨hx, hb, hml, hown, hts⟩ (c_isWork l dC dI cI x wa sh po di 0 v) (cwV 1 hts gX5_find_X5_isWork rfl rfl rfl (by decide +kernel) ⟨Nat.le_of_ble_eq_true rfl, Nat.le_of_ble_eq_true rfl⟩) (rP_preV hKK (hP.sub (ws' := [(x, .inr (5, [.ref wa, .int 0, .ref sh, .ref po, .ref di]))]) [0] rfl) (va_recv hKK.1 hP (ci := 5) (q0 := 0) rfl rfl)) rfl rfl hl.1 rfl (lv_room (Nat.le_of_ble_eq_true rfl)) dX5_find_2 ⟨Nat.zero_le _, Nat.zero_le _⟩)) (fun r_1 hr_1 => ?_)
  obtain rfl : r_1 = 0 := by rcases hr_1 with ⟨_, a, b⟩ | ⟨e, _⟩; exact absurd (Int32.not_lt.mp a) b; exact e
  refine lv_if_eq (tgt := 17) hx hb dX5_find_5 (by decide) (fun c_2 => ?_) (fun c_2 => ?_)
  · refine lv_null hx hb dX5_find_17 ?_
    exact W.aret (v := .null) hx hb hr (Or.inl ⟨_, rfl⟩) (Or.inl rfl) (fun t ht hW => ⟨none, rfl, rfl, ht⟩) (fun _ h => by cases h) dX5_find_18
  · exact absurd c_2 (by decide)
set_option maxHeartbeats 4000000 in
set_option maxRecDepth 100000 in
/-- wants, no works -/
theorem c_wants0 (l : Launch) (dC : Nat → ClassId) (dI : Nat → Nat → Nat) (cI : ClassId) (x wa sh po di : Nat) (a b z d : Int32) : Met l yX5_wants wsX5_wants ({ frames := 2, cells := 0, slots := 0, locals := 42 }) (rP dC dI cI [.ref x, .int a, .int b, .int z, .int d] [(x, .inr (5, [.ref wa, .int 0, .ref sh, .ref po, .ref di]))]) (vp_Si (fun r => r = -1)) 0 0 (fun _ => False) := by
  refine Met.ofW (cc := cX5_wants) (maxL := 6) (ret := (some .int)) (by decide) rfl ?_
  intro p e s m args below meth c s₁ B hml hv
  obtain ⟨rfl, hP, hKK⟩ := hv
  have hx := B.exec
  have hb := B.bytes
  have hr := B.returns
  have hts := atoms_spec (ws := wsX5_wants) B.pre
  have hown : s.vm.findClass RX5 = some m.cls := findClass_of_methodNamed B.named
  have hlocks := B.notSynchronized
  have hP : va_P (dC, dI) vwCl [(x, .inr (5, [.ref wa, .int 0, .ref sh, .ref po, .ref di]))] s.heap := hP
  have hl := lv_entry ([.ref x, .int a, .int b, .int z, .int d]) (n := 6) (Nat.le_of_ble_eq_true rfl)
  rw [lg_entry_eq]
  generalize (lg_sl ([.ref x, .int a, .int b, .int z, .int d]) ++ List.replicate (6 - (lg_sl ([.ref x, .int a, .int b, .int z, .int d])).length) Slot.unset).toArray = ls at hl ⊢
  have hl : lv_has ls 6 [(0, .ref x), (1, .int a), (2, .int b), (3, .int z), (4, .int d)] := hl
  refine lv_aload_n hx hb dX5_wants_0 rfl (lv_at hl 0 rfl) ?_
  refine lv_iload_n hx hb dX5_wants_1 rfl (lv_at hl 1 rfl) ?_
  refine va_csq (va_Run.run (va_runV (As := [.int a]) (rest := []) ⟨hx, hb, hml, hown, hts⟩ (c_find0 l dC dI cI x wa sh po di a) (cwV 1 hts gX5_wants_X5_find rfl rfl rfl (by decide +kernel) ⟨Nat.le_of_ble_eq_true rfl, Nat.le_of_ble_eq_true rfl⟩) (rP_preV hKK (hP.sub (ws' := [(x, .inr (5, [.ref wa, .int 0, .ref sh, .ref po, .ref di]))]) [0] rfl) (va_recv hKK.1 hP (ci := 5) (q0 := 0) rfl rfl)) rfl rfl hl.1 rfl (lv_room (Nat.le_of_ble_eq_true rfl)) dX5_wants_2 ⟨Nat.zero_le _, Nat.zero_le _⟩)) (fun r_1 hr_1 => ?_)
  subst hr_1
  refine W.eq (g2 := F0 m 5 ls [.null]) rfl ?_
  refine lv_astoreN (lv' := [(5, .null), (0, .ref x), (1, .int a), (2, .int b), (3, .int z), (4, .int d)]) hx hb dX5_wants_5 hl (by decide) rfl (fun ls hl => ?_)
  refine lv_aloadN hx hb dX5_wants_7 (lv_at hl 0 rfl) ?_
  refine lv_ifnullN (tgt := 21) hx hb dX5_wants_9 (by decide) ?_
  refine lv_iconst (v := (-1)) hx hb dX5_wants_21 (by decide) ?_
  exact W.iret (v := (-1)) hx hb hr (fun t ht hW => ⟨(-1), rfl, rfl, ht⟩) (fun _ h => by cases h) dX5_wants_22
set_option maxHeartbeats 4000000 in
set_option maxRecDepth 100000 in
/-- sends, no works -/
theorem c_sends0 (l : Launch) (dC : Nat → ClassId) (dI : Nat → Nat → Nat) (cI : ClassId) (x wa sh po di : Nat) (a b d : Int32) : Met l yX5_sends wsX5_sends ({ frames := 2, cells := 0, slots := 0, locals := 42 }) (rP dC dI cI [.ref x, .int a, .int b, .int d] [(x, .inr (5, [.ref wa, .int 0, .ref sh, .ref po, .ref di]))]) (vp_Si (fun r => r = -1)) 0 0 (fun _ => False) := by
  refine Met.ofW (cc := cX5_sends) (maxL := 5) (ret := (some .int)) (by decide) rfl ?_
  intro p e s m args below meth c s₁ B hml hv
  obtain ⟨rfl, hP, hKK⟩ := hv
  have hx := B.exec
  have hb := B.bytes
  have hr := B.returns
  have hts := atoms_spec (ws := wsX5_sends) B.pre
  have hown : s.vm.findClass RX5 = some m.cls := findClass_of_methodNamed B.named
  have hlocks := B.notSynchronized
  have hP : va_P (dC, dI) vwCl [(x, .inr (5, [.ref wa, .int 0, .ref sh, .ref po, .ref di]))] s.heap := hP
  have hl := lv_entry ([.ref x, .int a, .int b, .int d]) (n := 5) (Nat.le_of_ble_eq_true rfl)
  rw [lg_entry_eq]
  generalize (lg_sl ([.ref x, .int a, .int b, .int d]) ++ List.replicate (5 - (lg_sl ([.ref x, .int a, .int b, .int d])).length) Slot.unset).toArray = ls at hl ⊢
  have hl : lv_has ls 5 [(0, .ref x), (1, .int a), (2, .int b), (3, .int d)] := hl
  refine lv_aload_n hx hb dX5_sends_0 rfl (lv_at hl 0 rfl) ?_
  refine lv_iload_n hx hb dX5_sends_1 rfl (lv_at hl 1 rfl) ?_
  refine va_csq (va_Run.run (va_runV (As := [.int a]) (rest := []) ⟨hx, hb, hml, hown, hts⟩ (c_find0 l dC dI cI x wa sh po di a) (cwV 1 hts gX5_sends_X5_find rfl rfl rfl (by decide +kernel) ⟨Nat.le_of_ble_eq_true rfl, Nat.le_of_ble_eq_true rfl⟩) (rP_preV hKK (hP.sub (ws' := [(x, .inr (5, [.ref wa, .int 0, .ref sh, .ref po, .ref di]))]) [0] rfl) (va_recv hKK.1 hP (ci := 5) (q0 := 0) rfl rfl)) rfl rfl hl.1 rfl (lv_room (Nat.le_of_ble_eq_true rfl)) dX5_sends_2 ⟨Nat.zero_le _, Nat.zero_le _⟩)) (fun r_1 hr_1 => ?_)
  subst hr_1
  refine W.eq (g2 := F0 m 5 ls [.null]) rfl ?_
  refine lv_astoreN (lv' := [(4, .null), (0, .ref x), (1, .int a), (2, .int b), (3, .int d)]) hx hb dX5_sends_5 hl (by decide) rfl (fun ls hl => ?_)
  refine lv_aloadN hx hb dX5_sends_7 (lv_at hl 0 rfl) ?_
  refine lv_ifnullN (tgt := 21) hx hb dX5_sends_9 (by decide) ?_
  refine lv_iconst (v := (-1)) hx hb dX5_sends_21 (by decide) ?_
  exact W.iret (v := (-1)) hx hb hr (fun t ht hW => ⟨(-1), rfl, rfl, ht⟩) (fun _ h => by cases h) dX5_sends_22
set_option maxHeartbeats 4000000 in
set_option maxRecDepth 100000 in
/-- turn, no works -/
theorem c_turn0 (l : Launch) (dC : Nat → ClassId) (dI : Nat → Nat → Nat) (cI : ClassId) (x wa sh po di : Nat) (a : Int32) : Met l yX5_turn wsX5_turn ({ frames := 2, cells := 0, slots := 0, locals := 42 }) (rP dC dI cI [.ref x, .int a] [(x, .inr (5, [.ref wa, .int 0, .ref sh, .ref po, .ref di]))]) (vp_Si (fun r => r = 0)) 0 0 (fun _ => False) := by
  refine Met.ofW (cc := cX5_turn) (maxL := 3) (ret := (some .int)) (by decide) rfl ?_
  intro p e s m args below meth c s₁ B hml hv
  obtain ⟨rfl, hP, hKK⟩ := hv
  have hx := B.exec
  have hb := B.bytes
  have hr := B.returns
  have hts := atoms_spec (ws := wsX5_turn) B.pre
  have hown : s.vm.findClass RX5 = some m.cls := findClass_of_methodNamed B.named
  have hlocks := B.notSynchronized
  have hP : va_P (dC, dI) vwCl [(x, .inr (5, [.ref wa, .int 0, .ref sh, .ref po, .ref di]))] s.heap := hP
  have hl := lv_entry ([.ref x, .int a]) (n := 3) (Nat.le_of_ble_eq_true rfl)
  rw [lg_entry_eq]
  generalize (lg_sl ([.ref x, .int a]) ++ List.replicate (3 - (lg_sl ([.ref x, .int a])).length) Slot.unset).toArray = ls at hl ⊢
  have hl : lv_has ls 3 [(0, .ref x), (1, .int a)] := hl
  refine lv_aload_n hx hb dX5_turn_0 rfl (lv_at hl 0 rfl) ?_
  refine lv_iload_n hx hb dX5_turn_1 rfl (lv_at hl 1 rfl) ?_
  refine va_csq (va_Run.run (va_runV (As := [.int a]) (rest := []) ⟨hx, hb, hml, hown, hts⟩ (c_find0 l dC dI cI x wa sh po di a) (cwV 1 hts gX5_turn_X5_find rfl rfl rfl (by decide +kernel) ⟨Nat.le_of_ble_eq_true rfl, Nat.le_of_ble_eq_true rfl⟩) (rP_preV hKK (hP.sub (ws' := [(x, .inr (5, [.ref wa, .int 0, .ref sh, .ref po, .ref di]))]) [0] rfl) (va_recv hKK.1 hP (ci := 5) (q0 := 0) rfl rfl)) rfl rfl hl.1 rfl (lv_room (Nat.le_of_ble_eq_true rfl)) dX5_turn_2 ⟨Nat.zero_le _, Nat.zero_le _⟩)) (fun r_1 hr_1 => ?_)
  subst hr_1
  refine W.eq (g2 := F0 m 5 ls [.null]) rfl ?_
  refine lv_astore_nN (lv' := [(2, .null), (0, .ref x), (1, .int a)]) hx hb dX5_turn_5 rfl hl (by decide) rfl (fun ls hl => ?_)
  refine lv_aload_nN hx hb dX5_turn_6 rfl (lv_at hl 0 rfl) ?_
  refine lv_ifnonnullN hx hb dX5_turn_7 ?_
  refine lv_iconst (v := 0) hx hb dX5_turn_10 (by decide) ?_
  refine lv_goto (tgt := 19) hx hb dX5_turn_11 (by decide) ?_
  exact W.iret (v := 0) hx hb hr (fun t ht hW => ⟨0, rfl, rfl, ht⟩) (fun _ h => by cases h) dX5_turn_19
set_option maxHeartbeats 4000000 in
set_option maxRecDepth 100000 in
/-- interrupt, no works -/
theorem c_interrupt0 (l : Launch) (dC : Nat → ClassId) (dI : Nat → Nat → Nat) (cI : ClassId) (x wa sh po di : Nat) (a : Int32) : Met l yX5_interrupt wsX5_interrupt ({ frames := 2, cells := 0, slots := 0, locals := 42 }) (rP dC dI cI [.ref x, .int a] [(x, .inr (5, [.ref wa, .int 0, .ref sh, .ref po, .ref di]))]) (vp_Si (fun r => r = -1)) 0 0 (fun _ => False) := by
  refine Met.ofW (cc := cX5_interrupt) (maxL := 3) (ret := (some .int)) (by decide) rfl ?_
  intro p e s m args below meth c s₁ B hml hv
  obtain ⟨rfl, hP, hKK⟩ := hv
  have hx := B.exec
  have hb := B.bytes
  have hr := B.returns
  have hts := atoms_spec (ws := wsX5_interrupt) B.pre
  have hown : s.vm.findClass RX5 = some m.cls := findClass_of_methodNamed B.named
  have hlocks := B.notSynchronized
  have hP : va_P (dC, dI) vwCl [(x, .inr (5, [.ref wa, .int 0, .ref sh, .ref po, .ref di]))] s.heap := hP
  have hl := lv_entry ([.ref x, .int a]) (n := 3) (Nat.le_of_ble_eq_true rfl)
  rw [lg_entry_eq]
  generalize (lg_sl ([.ref x, .int a]) ++ List.replicate (3 - (lg_sl ([.ref x, .int a])).length) Slot.unset).toArray = ls at hl ⊢
  have hl : lv_has ls 3 [(0, .ref x), (1, .int a)] := hl
  refine lv_aload_n hx hb dX5_interrupt_0 rfl (lv_at hl 0 rfl) ?_
  refine lv_iload_n hx hb dX5_interrupt_1 rfl (lv_at hl 1 rfl) ?_
  refine va_csq (va_Run.run (va_runV (As := [.int a]) (rest := []) ⟨hx, hb, hml, hown, hts⟩ (c_find0 l dC dI cI x wa sh po di a) (cwV 1 hts gX5_interrupt_X5_find rfl rfl rfl (by decide +kernel) ⟨Nat.le_of_ble_eq_true rfl, Nat.le_of_ble_eq_true rfl⟩) (rP_preV hKK (hP.sub (ws' := [(x, .inr (5, [.ref wa, .int 0, .ref sh, .ref po, .ref di]))]) [0] rfl) (va_recv hKK.1 hP (ci := 5) (q0 := 0) rfl rfl)) rfl rfl hl.1 rfl (lv_room (Nat.le_of_ble_eq_true rfl)) dX5_interrupt_2 ⟨Nat.zero_le _, Nat.zero_le _⟩)) (fun r_1 hr_1 => ?_)
  subst hr_1
  refine W.eq (g2 := F0 m 5 ls [.null]) rfl ?_
  refine lv_astore_nN (lv' := [(2, .null), (0, .ref x), (1, .int a)]) hx hb dX5_interrupt_5 rfl hl (by decide) rfl (fun ls hl => ?_)
  refine lv_aload_nN hx hb dX5_interrupt_6 rfl (lv_at hl 0 rfl) ?_
  refine lv_ifnonnullN hx hb dX5_interrupt_7 ?_
  refine lv_iconst (v := (-1)) hx hb dX5_interrupt_10 (by decide) ?_
  exact W.iret (v := (-1)) hx hb hr (fun t ht hW => ⟨(-1), rfl, rfl, ht⟩) (fun _ h => by cases h) dX5_interrupt_11
set_option maxHeartbeats 4000000 in
set_option maxRecDepth 100000 in
/-- again, no works -/
theorem c_again0 (l : Launch) (dC : Nat → ClassId) (dI : Nat → Nat → Nat) (cI : ClassId) (x wa sh po di : Nat) (a : Int32) : Met l yX5_again wsX5_again ({ frames := 2, cells := 0, slots := 0, locals := 42 }) (rP dC dI cI [.ref x, .int a] [(x, .inr (5, [.ref wa, .int 0, .ref sh, .ref po, .ref di]))]) (vp_Si (fun r => r = -1)) 0 0 (fun _ => False) := by
  refine Met.ofW (cc := cX5_again) (maxL := 3) (ret := (some .int)) (by decide) rfl ?_
  intro p e s m args below meth c s₁ B hml hv
  obtain ⟨rfl, hP, hKK⟩ := hv
  have hx := B.exec
  have hb := B.bytes
  have hr := B.returns
  have hts := atoms_spec (ws := wsX5_again) B.pre
  have hown : s.vm.findClass RX5 = some m.cls := findClass_of_methodNamed B.named
  have hlocks := B.notSynchronized
  have hP : va_P (dC, dI) vwCl [(x, .inr (5, [.ref wa, .int 0, .ref sh, .ref po, .ref di]))] s.heap := hP
  have hl := lv_entry ([.ref x, .int a]) (n := 3) (Nat.le_of_ble_eq_true rfl)
  rw [lg_entry_eq]
  generalize (lg_sl ([.ref x, .int a]) ++ List.replicate (3 - (lg_sl ([.ref x, .int a])).length) Slot.unset).toArray = ls at hl ⊢
  have hl : lv_has ls 3 [(0, .ref x), (1, .int a)] := hl
  refine lv_aload_n hx hb dX5_again_0 rfl (lv_at hl 0 rfl) ?_
  refine lv_iload_n hx hb dX5_again_1 rfl (lv_at hl 1 rfl) ?_
  refine va_csq (va_Run.run (va_runV (As := [.int a]) (rest := []) ⟨hx, hb, hml, hown, hts⟩ (c_find0 l dC dI cI x wa sh po di a) (cwV 1 hts gX5_again_X5_find rfl rfl rfl (by decide +kernel) ⟨Nat.le_of_ble_eq_true rfl, Nat.le_of_ble_eq_true rfl⟩) (rP_preV hKK (hP.sub (ws' := [(x, .inr (5, [.ref wa, .int 0, .ref sh, .ref po, .ref di]))]) [0] rfl) (va_recv hKK.1 hP (ci := 5) (q0 := 0) rfl rfl)) rfl rfl hl.1 rfl (lv_room (Nat.le_of_ble_eq_true rfl)) dX5_again_2 ⟨Nat.zero_le _, Nat.zero_le _⟩)) (fun r_1 hr_1 => ?_)
  subst hr_1
  refine W.eq (g2 := F0 m 5 ls [.null]) rfl ?_
  refine lv_astore_nN (lv' := [(2, .null), (0, .ref x), (1, .int a)]) hx hb dX5_again_5 rfl hl (by decide) rfl (fun ls hl => ?_)
  refine lv_aload_nN hx hb dX5_again_6 rfl (lv_at hl 0 rfl) ?_
  refine lv_ifnonnullN hx hb dX5_again_7 ?_
  refine lv_iconst (v := (-1)) hx hb dX5_again_10 (by decide) ?_
  exact W.iret (v := (-1)) hx hb hr (fun t ht hW => ⟨(-1), rfl, rfl, ht⟩) (fun _ h => by cases h) dX5_again_11
set_option maxHeartbeats 4000000 in
set_option maxRecDepth 100000 in
/-- state, no works -/
theorem c_state0 (l : Launch) (dC : Nat → ClassId) (dI : Nat → Nat → Nat) (cI : ClassId) (x wa sh po di : Nat) (a b : Int32) : Met l yX5_state wsX5_state ({ frames := 2, cells := 0, slots := 0, locals := 42 }) (rP dC dI cI [.ref x, .int a, .int b] [(x, .inr (5, [.ref wa, .int 0, .ref sh, .ref po, .ref di]))]) (vp_Si (fun r => r = -1)) 0 0 (fun _ => False) := by
  refine Met.ofW (cc := cX5_state) (maxL := 4) (ret := (some .int)) (by decide) rfl ?_
  intro p e s m args below meth c s₁ B hml hv
  obtain ⟨rfl, hP, hKK⟩ := hv
  have hx := B.exec
  have hb := B.bytes
  have hr := B.returns
  have hts := atoms_spec (ws := wsX5_state) B.pre
  have hown : s.vm.findClass RX5 = some m.cls := findClass_of_methodNamed B.named
  have hlocks := B.notSynchronized
  have hP : va_P (dC, dI) vwCl [(x, .inr (5, [.ref wa, .int 0, .ref sh, .ref po, .ref di]))] s.heap := hP
  have hl := lv_entry ([.ref x, .int a, .int b]) (n := 4) (Nat.le_of_ble_eq_true rfl)
  rw [lg_entry_eq]
  generalize (lg_sl ([.ref x, .int a, .int b]) ++ List.replicate (4 - (lg_sl ([.ref x, .int a, .int b])).length) Slot.unset).toArray = ls at hl ⊢
  have hl : lv_has ls 4 [(0, .ref x), (1, .int a), (2, .int b)] := hl
  refine lv_aload_n hx hb dX5_state_0 rfl (lv_at hl 0 rfl) ?_
  refine lv_iload_n hx hb dX5_state_1 rfl (lv_at hl 1 rfl) ?_
  refine va_csq (va_Run.run (va_runV (As := [.int a]) (rest := []) ⟨hx, hb, hml, hown, hts⟩ (c_find0 l dC dI cI x wa sh po di a) (cwV 1 hts gX5_state_X5_find rfl rfl rfl (by decide +kernel) ⟨Nat.le_of_ble_eq_true rfl, Nat.le_of_ble_eq_true rfl⟩) (rP_preV hKK (hP.sub (ws' := [(x, .inr (5, [.ref wa, .int 0, .ref sh, .ref po, .ref di]))]) [0] rfl) (va_recv hKK.1 hP (ci := 5) (q0 := 0) rfl rfl)) rfl rfl hl.1 rfl (lv_room (Nat.le_of_ble_eq_true rfl)) dX5_state_2 ⟨Nat.zero_le _, Nat.zero_le _⟩)) (fun r_1 hr_1 => ?_)
  subst hr_1
  refine W.eq (g2 := F0 m 5 ls [.null]) rfl ?_
  refine lv_astore_nN (lv' := [(3, .null), (0, .ref x), (1, .int a), (2, .int b)]) hx hb dX5_state_5 rfl hl (by decide) rfl (fun ls hl => ?_)
  refine lv_aload_nN hx hb dX5_state_6 rfl (lv_at hl 0 rfl) ?_
  refine lv_ifnonnullN hx hb dX5_state_7 ?_
  refine lv_iconst (v := (-1)) hx hb dX5_state_10 (by decide) ?_
  exact W.iret (v := (-1)) hx hb hr (fun t ht hW => ⟨(-1), rfl, rfl, ht⟩) (fun _ h => by cases h) dX5_state_11
set_option maxHeartbeats 4000000 in
set_option maxRecDepth 100000 in
/-- mail, no works -/
theorem c_mail0 (l : Launch) (dC : Nat → ClassId) (dI : Nat → Nat → Nat) (cI : ClassId) (x wa sh po di : Nat) (a b : Int32) : Met l yX5_mail wsX5_mail ({ frames := 2, cells := 0, slots := 0, locals := 42 }) (rP dC dI cI [.ref x, .int a, .int b] [(x, .inr (5, [.ref wa, .int 0, .ref sh, .ref po, .ref di]))]) (vp_Si (fun r => r = -2)) 0 0 (fun _ => False) := by
  refine Met.ofW (cc := cX5_mail) (maxL := 3) (ret := (some .int)) (by decide) rfl ?_
  intro p e s m args below meth c s₁ B hml hv
  obtain ⟨rfl, hP, hKK⟩ := hv
  have hx := B.exec
  have hb := B.bytes
  have hr := B.returns
  have hts := atoms_spec (ws := wsX5_mail) B.pre
  have hown : s.vm.findClass RX5 = some m.cls := findClass_of_methodNamed B.named
  have hlocks := B.notSynchronized
  have hP : va_P (dC, dI) vwCl [(x, .inr (5, [.ref wa, .int 0, .ref sh, .ref po, .ref di]))] s.heap := hP
  have hl := lv_entry ([.ref x, .int a, .int b]) (n := 3) (Nat.le_of_ble_eq_true rfl)
  rw [lg_entry_eq]
  generalize (lg_sl ([.ref x, .int a, .int b]) ++ List.replicate (3 - (lg_sl ([.ref x, .int a, .int b])).length) Slot.unset).toArray = ls at hl ⊢
  have hl : lv_has ls 3 [(0, .ref x), (1, .int a), (2, .int b)] := hl
  refine lv_aload_n hx hb dX5_mail_0 rfl (lv_at hl 0 rfl) ?_
  refine lv_iload_n hx hb dX5_mail_1 rfl (lv_at hl 1 rfl) ?_
  refine va_csq (va_Run.run (va_runV (As := [.int a]) (rest := []) ⟨hx, hb, hml, hown, hts⟩ (c_find0 l dC dI cI x wa sh po di a) (cwV 1 hts gX5_mail_X5_find rfl rfl rfl (by decide +kernel) ⟨Nat.le_of_ble_eq_true rfl, Nat.le_of_ble_eq_true rfl⟩) (rP_preV hKK (hP.sub (ws' := [(x, .inr (5, [.ref wa, .int 0, .ref sh, .ref po, .ref di]))]) [0] rfl) (va_recv hKK.1 hP (ci := 5) (q0 := 0) rfl rfl)) rfl rfl hl.1 rfl (lv_room (Nat.le_of_ble_eq_true rfl)) dX5_mail_2 ⟨Nat.zero_le _, Nat.zero_le _⟩)) (fun r_1 hr_1 => ?_)
  subst hr_1
  refine W.eq (g2 := F0 m 5 ls [.null]) rfl ?_
  refine lv_ifnullN (tgt := 17) hx hb dX5_mail_5 (by decide) ?_
  refine lv_bipush (v := (-2)) hx hb dX5_mail_17 (by decide) ?_
  exact W.iret (v := (-2)) hx hb hr (fun t ht hW => ⟨(-2), rfl, rfl, ht⟩) (fun _ h => by cases h) dX5_mail_19
theorem iX5_run_X5 : ∀ w ∈ u_ws RX5 TX5 5, w ∈ wsX5_run := by decide +kernel
set_option maxHeartbeats 4000000 in
set_option maxRecDepth 100000 in
/-- run, no works -/
theorem c_run0 (l : Launch) (dC : Nat → ClassId) (dI : Nat → Nat → Nat) (cI : ClassId) (x wa sh po di : Nat) : Met l yX5_run wsX5_run ({ frames := 0, cells := 0, slots := 0, locals := 0 }) (rP dC dI cI [.ref x] [(x, .inr (5, [.ref wa, .int 0, .ref sh, .ref po, .ref di]))]) (vp_Si (fun r => r = 0)) 0 0 (fun _ => False) := by
  refine Met.ofW (cc := cX5_run) (maxL := 6) (ret := (some .int)) (by decide) rfl ?_
  intro p e s m args below meth c s₁ B hml hv
  obtain ⟨rfl, hP, hKK⟩ := hv
  have hx := B.exec
  have hb := B.bytes
  have hr := B.returns
  have hts := atoms_spec (ws := wsX5_run) B.pre
  have hown : s.vm.findClass RX5 = some m.cls := findClass_of_methodNamed B.named
  have hlocks := B.notSynchronized
  have hP : va_P (dC, dI) vwCl [(x, .inr (5, [.ref wa, .int 0, .ref sh, .ref po, .ref di]))] s.heap := hP
  have hl := lv_entry ([.ref x]) (n := 6) (Nat.le_of_ble_eq_true rfl)
  rw [lg_entry_eq]
  generalize (lg_sl ([.ref x]) ++ List.replicate (6 - (lg_sl ([.ref x])).length) Slot.unset).toArray = ls at hl ⊢
  have hl : lv_has ls 6 [(0, .ref x)] := hl
  refine lv_iconst (v := 0) hx hb dX5_run_0 (by decide) ?_
  refine lv_istore_n (lv' := [(1, .int 0), (0, .ref x)]) hx hb dX5_run_1 rfl hl (by decide) rfl (fun ls hl => ?_)
  refine lv_iconst (v := 1) hx hb dX5_run_2 (by decide) ?_
  refine lv_istore_n (lv' := [(2, .int 1), (1, .int 0), (0, .ref x)]) hx hb dX5_run_3 rfl hl (by decide) rfl (fun ls hl => ?_)
  refine lv_iconst (v := 0) hx hb dX5_run_4 (by decide) ?_
  refine lv_istore_n (lv' := [(3, .int 0), (2, .int 1), (1, .int 0), (0, .ref x)]) hx hb dX5_run_5 rfl hl (by decide) rfl (fun ls hl => ?_)
  refine lv_iload_n hx hb dX5_run_6 rfl (lv_at hl 1 rfl) ?_
  refine lv_if_eq (tgt := 92) hx hb dX5_run_7 (by decide) (fun c_1 => ?_) (fun c_1 => ?_)
  · exact absurd c_1 (by decide)
  · refine lv_iload_n hx hb dX5_run_10 rfl (lv_at hl 0 rfl) ?_
    refine lv_ldc (v := 1000000) hx hb hown (hts (.constant RX5 91 1000000) (by decide +kernel)) dX5_run_11 ?_
    refine lv_icmp_ge (tgt := 92) hx hb dX5_run_13 (by decide) (fun c_2 => ?_) (fun c_2 => ?_)
    · exact absurd c_2 (by decide)
    · refine lv_iconst (v := 0) hx hb dX5_run_16 (by decide) ?_
      refine lv_istore_n (lv' := [(2, .int 0), (3, .int 0), (1, .int 0), (0, .ref x)]) hx hb dX5_run_17 rfl hl (by decide) rfl (fun ls hl => ?_)
      refine lv_iconst (v := 0) hx hb dX5_run_18 (by decide) ?_
      refine lv_istore (lv' := [(4, .int 0), (2, .int 0), (3, .int 0), (1, .int 0), (0, .ref x)]) hx hb dX5_run_19 hl (by decide) rfl (fun ls hl => ?_)
      refine lv_iload hx hb dX5_run_21 (lv_at hl 0 rfl) ?_
      refine lv_aload_n hx hb dX5_run_23 rfl (lv_at hl 4 rfl) ?_
      refine va_get (D := (dC, dI)) (ci := 5) (v := .int 0) (C := RX5) (T := TX5) (N := 5) hx hb hts iX5_run_X5 hown hKK.1 hP 0 rfl rfl 1 (by decide) (hts (.fieldLink RX5 39 "LendThreads" "workCount" "I") (by decide +kernel)) (fun _ h9 => h9) rfl dX5_run_24 ?_
      refine lv_icmp_ge (tgt := 86) hx hb dX5_run_27 (by decide) (fun c_3 => ?_) (fun c_3 => ?_)
      · refine lv_iinc (v := 1) (lv' := [(3, .int 1), (4, .int 0), (2, .int 0), (1, .int 0), (0, .ref x)]) hx hb dX5_run_86 hl (k := 2) rfl (by decide) (by decide) rfl (fun ls hl => ?_)
        refine lv_goto (tgt := 6) hx hb dX5_run_89 (by decide) ?_
        refine lv_iload_n hx hb dX5_run_6 rfl (lv_at hl 2 rfl) ?_
        refine lv_if_eq (tgt := 92) hx hb dX5_run_7 (by decide) (fun c_4 => ?_) (fun c_4 => ?_)
        · refine lv_iload_n hx hb dX5_run_92 rfl (lv_at hl 3 rfl) ?_
          exact W.iret (v := 0) hx hb hr (fun t ht hW => ⟨0, rfl, rfl, ht⟩) (fun _ h => by cases h) dX5_run_93
        · exact absurd c_4 (by decide)
      · exact absurd c_3 (by decide)
theorem iX5_ring_X5 : ∀ w ∈ u_ws RX5 TX5 5, w ∈ wsX5_ring := by decide +kernel
set_option maxHeartbeats 4000000 in
set_option maxRecDepth 100000 in
/-- ring, no works -/
theorem c_ring0 (l : Launch) (dC : Nat → ClassId) (dI : Nat → Nat → Nat) (cI : ClassId) (x wa sh po di : Nat) : Met l yX5_ring wsX5_ring ({ frames := 0, cells := 0, slots := 0, locals := 0 }) (rP dC dI cI [.ref x] [(x, .inr (5, [.ref wa, .int 0, .ref sh, .ref po, .ref di]))]) (vp_Si (fun r => r = -1)) 0 0 (fun _ => False) := by
  refine Met.ofW (cc := cX5_ring) (maxL := 3) (ret := (some .int)) (by decide) rfl ?_
  intro p e s m args below meth c s₁ B hml hv
  obtain ⟨rfl, hP, hKK⟩ := hv
  have hx := B.exec
  have hb := B.bytes
  have hr := B.returns
  have hts := atoms_spec (ws := wsX5_ring) B.pre
  have hown : s.vm.findClass RX5 = some m.cls := findClass_of_methodNamed B.named
  have hlocks := B.notSynchronized
  have hP : va_P (dC, dI) vwCl [(x, .inr (5, [.ref wa, .int 0, .ref sh, .ref po, .ref di]))] s.heap := hP
  have hl := lv_entry ([.ref x]) (n := 3) (Nat.le_of_ble_eq_true rfl)
  rw [lg_entry_eq]
  generalize (lg_sl ([.ref x]) ++ List.replicate (3 - (lg_sl ([.ref x])).length) Slot.unset).toArray = ls at hl ⊢
  have hl : lv_has ls 3 [(0, .ref x)] := hl
  refine lv_iconst (v := 0) hx hb dX5_ring_0 (by decide) ?_
  refine lv_istore_n (lv' := [(1, .int 0), (0, .ref x)]) hx hb dX5_ring_1 rfl hl (by decide) rfl (fun ls hl => ?_)
  refine lv_iload_n hx hb dX5_ring_2 rfl (lv_at hl 0 rfl) ?_
  refine lv_aload_n hx hb dX5_ring_3 rfl (lv_at hl 1 rfl) ?_
  refine va_get (D := (dC, dI)) (ci := 5) (v := .int 0) (C := RX5) (T := TX5) (N := 5) hx hb hts iX5_ring_X5 hown hKK.1 hP 0 rfl rfl 1 (by decide) (hts (.fieldLink RX5 39 "LendThreads" "workCount" "I") (by decide +kernel)) (fun _ h9 => h9) rfl dX5_ring_4 ?_
  refine lv_icmp_ge (tgt := 40) hx hb dX5_ring_7 (by decide) (fun c_1 => ?_) (fun c_1 => ?_)
  · refine lv_iconst (v := (-1)) hx hb dX5_ring_40 (by decide) ?_
    exact W.iret (v := (-1)) hx hb hr (fun t ht hW => ⟨(-1), rfl, rfl, ht⟩) (fun _ h => by cases h) dX5_ring_41
  · exact absurd c_1 (by decide)
theorem iX5_close_X5 : ∀ w ∈ u_ws RX5 TX5 5, w ∈ wsX5_close := by decide +kernel
set_option maxHeartbeats 4000000 in
set_option maxRecDepth 100000 in
/-- close, no works -/
theorem c_close0 (l : Launch) (dC : Nat → ClassId) (dI : Nat → Nat → Nat) (cI : ClassId) (x wa sh po di : Nat) : Met l yX5_close wsX5_close ({ frames := 0, cells := 0, slots := 0, locals := 0 }) (rP dC dI cI [.ref x] [(x, .inr (5, [.ref wa, .int 0, .ref sh, .ref po, .ref di]))]) (vp_Si (fun r => r = 0)) 0 0 (fun _ => False) := by
  refine Met.ofW (cc := cX5_close) (maxL := 3) (ret := (some .int)) (by decide) rfl ?_
  intro p e s m args below meth c s₁ B hml hv
  obtain ⟨rfl, hP, hKK⟩ := hv
  have hx := B.exec
  have hb := B.bytes
  have hr := B.returns
  have hts := atoms_spec (ws := wsX5_close) B.pre
  have hown : s.vm.findClass RX5 = some m.cls := findClass_of_methodNamed B.named
  have hlocks := B.notSynchronized
  have hP : va_P (dC, dI) vwCl [(x, .inr (5, [.ref wa, .int 0, .ref sh, .ref po, .ref di]))] s.heap := hP
  have hl := lv_entry ([.ref x]) (n := 3) (Nat.le_of_ble_eq_true rfl)
  rw [lg_entry_eq]
  generalize (lg_sl ([.ref x]) ++ List.replicate (3 - (lg_sl ([.ref x])).length) Slot.unset).toArray = ls at hl ⊢
  have hl : lv_has ls 3 [(0, .ref x)] := hl
  refine lv_iconst (v := 0) hx hb dX5_close_0 (by decide) ?_
  refine lv_istore_n (lv' := [(1, .int 0), (0, .ref x)]) hx hb dX5_close_1 rfl hl (by decide) rfl (fun ls hl => ?_)
  refine lv_aload_n hx hb dX5_close_2 rfl (lv_at hl 1 rfl) ?_
  refine va_get (D := (dC, dI)) (ci := 5) (v := .int 0) (C := RX5) (T := TX5) (N := 5) hx hb hts iX5_close_X5 hown hKK.1 hP 0 rfl rfl 1 (by decide) (hts (.fieldLink RX5 39 "LendThreads" "workCount" "I") (by decide +kernel)) (fun _ h9 => h9) rfl dX5_close_3 ?_
  refine lv_iconst (v := 1) hx hb dX5_close_6 (by decide) ?_
  refine lv_isub hx hb dX5_close_7 ?_
  refine lv_topi (fun x_1 ex_1 => ?_)
  obtain rfl : x_1 = (-1) := by rw [ex_1]; decide
  refine lv_istore_n (lv' := [(2, .int (-1)), (1, .int 0), (0, .ref x)]) hx hb dX5_close_8 rfl hl (by decide) rfl (fun ls hl => ?_)
  refine lv_iload_n hx hb dX5_close_9 rfl (lv_at hl 0 rfl) ?_
  refine lv_if_lt (tgt := 45) hx hb dX5_close_10 (by decide) (fun c_2 => ?_) (fun c_2 => ?_)
  · refine lv_iload_n hx hb dX5_close_45 rfl (lv_at hl 1 rfl) ?_
    exact W.iret (v := 0) hx hb hr (fun t ht hW => ⟨0, rfl, rfl, ht⟩) (fun _ h => by cases h) dX5_close_46
  · exact absurd c_2 (by decide)
theorem iX5_has_X3 : ∀ w ∈ u_ws RX3 TX3 4, w ∈ wsX5_has := by decide +kernel
theorem iX5_has_X5 : ∀ w ∈ u_ws RX5 TX5 5, w ∈ wsX5_has := by decide +kernel
set_option maxHeartbeats 4000000 in
set_option maxRecDepth 100000 in
/-- has, none held -/
theorem c_has0 (l : Launch) (dC : Nat → ClassId) (dI : Nat → Nat → Nat) (cI : ClassId) (x wa sh po di : Nat) (va vw ho li : Nat) (f : Nat → Int32) (hf : ∀ j, j < 10 → f j = -1) (v : Int32) : Met l yX5_has wsX5_has ({ frames := 1, cells := 0, slots := 0, locals := 20 }) (rP dC dI cI [.ref x, .int v] [(x, .inr (5, [.ref wa, .int 0, .ref sh, .ref po, .ref di])), (sh, .inr (3, [.ref va, .ref vw, .ref ho, .ref li])), (ho, .inl (cI, 10, .inl f))]) (vp_Si (fun r => r = -1)) 0 0 (fun _ => False) := by
  refine Met.ofW (cc := cX5_has) (maxL := 2) (ret := (some .int)) (by decide) rfl ?_
  intro p e s m args below meth c s₁ B hml hv
  obtain ⟨rfl, hP, hKK⟩ := hv
  have hx := B.exec
  have hb := B.bytes
  have hr := B.returns
  have hts := atoms_spec (ws := wsX5_has) B.pre
  have hown : s.vm.findClass RX5 = some m.cls := findClass_of_methodNamed B.named
  have hlocks := B.notSynchronized
  have hP : va_P (dC, dI) vwCl [(x, .inr (5, [.ref wa, .int 0, .ref sh, .ref po, .ref di])), (sh, .inr (3, [.ref va, .ref vw, .ref ho, .ref li])), (ho, .inl (cI, 10, .inl f))] s.heap := hP
  have hl := lv_entry ([.ref x, .int v]) (n := 2) (Nat.le_of_ble_eq_true rfl)
  rw [lg_entry_eq]
  generalize (lg_sl ([.ref x, .int v]) ++ List.replicate (2 - (lg_sl ([.ref x, .int v])).length) Slot.unset).toArray = ls at hl ⊢
  have hl : lv_has ls 2 [(0, .ref x), (1, .int v)] := hl
  refine lv_iload_n hx hb dX5_has_0 rfl (lv_at hl 1 rfl) ?_
  refine vp_callSi (va_Run.run (va_runS (As := [.int v]) (rest := []) ⟨hx, hb, hml, hown, hts⟩ (c_isCopy l dC dI cI v) (va_cwS 1 hts gX5_has_X5_isCopy rfl rfl rfl (by decide +kernel) ⟨Nat.le_of_ble_eq_true rfl, Nat.le_of_ble_eq_true rfl⟩) (rP_preS hKK (hP.sub (ws' := []) [] rfl)) rfl rfl hl.1 rfl (lv_room (Nat.le_of_ble_eq_true rfl)) dX5_has_1 ⟨Nat.zero_le _, Nat.zero_le _⟩)) (fun r_1 hr_1 => ?_)
  refine lv_if_eq (tgt := 19) hx hb dX5_has_4 (by decide) (fun c_2 => ?_) (fun c_2 => ?_)
  · refine lv_iconst (v := (-1)) hx hb dX5_has_19 (by decide) ?_
    exact W.iret (v := (-1)) hx hb hr (fun t ht hW => ⟨(-1), rfl, rfl, ht⟩) (fun _ h => by cases h) dX5_has_20
  · refine lv_aload_n hx hb dX5_has_7 rfl (lv_at hl 0 rfl) ?_
    refine va_get (D := (dC, dI)) (ci := 5) (v := .ref sh) (C := RX5) (T := TX5) (N := 5) hx hb hts iX5_has_X5 hown hKK.1 hP 0 rfl rfl 2 (by decide) (hts (.fieldLink RX5 18 "LendThreads" "shelf" "LLendThreads$Shelf;") (by decide +kernel)) (fun _ h9 => h9) rfl dX5_has_8 ?_
    refine va_getN (D := (dC, dI)) (ci := 3) (v := .ref ho) (C := RX3) (T := TX3) (N := 4) hx hb hts iX5_has_X3 hown hKK.1 hP 1 rfl rfl 2 (by decide) (va_Nw.use rfl (hKK.2.2 (.fieldLinkNest RX5 127 RX3 "holders" "[I" RX5) (by decide +kernel))) (fun _ h9 => h9) rfl dX5_has_11 ?_
    refine lv_iload_n hx hb dX5_has_14 rfl (lv_at hl 1 rfl) ?_
    refine va_iald hx hb hKK.1 hP 2 0 rfl rfl (by rcases hr_1 with ⟨_, a, b⟩ | ⟨e, _⟩; exact bn_in (by decide) a b; exact absurd e c_2) dX5_has_15 ?_
    refine lv_topi (fun x_3 ex_3 => ?_)
    refine lv_goto (tgt := 20) hx hb dX5_has_16 (by decide) ?_
    exact W.iret (v := x_3) hx hb hr (fun t ht hW => ⟨x_3, rfl, by rw [ex_3]; exact hf _ (bn_lt (n := 10) (by rcases hr_1 with ⟨_, a, b⟩ | ⟨e, _⟩; exact bn_in (by decide) a b; exact absurd e c_2)), ht⟩) (fun _ h => by cases h) dX5_has_20
