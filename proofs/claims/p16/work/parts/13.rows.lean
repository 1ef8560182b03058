def F_X5_isCopy (M : Mem) (p0 : Int32) : Option (Int32) :=
  (if p0 < 0 then some 0 else (if 10 ≤ p0 then some 0 else some 1))
set_option maxHeartbeats 4000000 in
set_option maxRecDepth 100000 in
theorem k_X5_isCopy (l : Launch) (dC : Nat → ClassId) (dI : Nat → Nat → Nat) (cI c9 : ClassId) (ad : Nat → Nat) (hI : Inj 100 ad) (M : Mem) (p0 : Int32) (q : Int32) (h : F_X5_isCopy M p0 = some q) : Met l yX5_isCopy wsX5_isCopy ({ frames := 0, cells := 0, slots := 0, locals := 0 }) (gP dC dI cI c9 ad M [.int p0]) (vp_Si (fun x => x = q)) 0 0 (fun _ => False) := by
  refine Met.ofW (cc := cX5_isCopy) (maxL := 1) (ret := (some .boolean)) (by decide) rfl ?_
  intro p e s m args below meth c s₁ B hml hv
  obtain ⟨rfl, hP, hKK, hKw⟩ := hv
  have hx := B.exec
  have hb := B.bytes
  have hr := B.returns
  have hts := atoms_spec (ws := wsX5_isCopy) B.pre
  have hown : s.vm.findClass RX5 = some m.cls := findClass_of_methodNamed B.named
  have hlocks := B.notSynchronized
  have hl := lv_entry ([.int p0]) (n := 1) (Nat.le_of_ble_eq_true rfl)
  rw [lg_entry_eq]
  generalize (lg_sl ([.int p0]) ++ List.replicate (1 - (lg_sl ([.int p0])).length) Slot.unset).toArray = ls at hl ⊢
  have hl : lv_has ls 1 [(0, .int p0)] := hl
  unfold F_X5_isCopy at h
  refine lv_iload_n hx hb dX5_isCopy_0 rfl (lv_at hl 0 rfl) ?_
  refine lv_if_lt (tgt := 14) hx hb dX5_isCopy_1 (by decide) (fun c_1 => ?_) (fun c_1 => ?_)
  · rw [if_pos c_1] at h
    refine lv_iconst (v := 0) hx hb dX5_isCopy_14 (by decide) ?_
    replace h := Option.some.inj h
    subst h
    exact W.zret (v := 0) (ty := .boolean) hx hb hr (by rfl) (fun t ht hW => ⟨_, rfl, rfl, ht⟩) (fun _ h => by cases h) dX5_isCopy_15
  · rw [if_neg c_1] at h
    refine lv_iload_n hx hb dX5_isCopy_4 rfl (lv_at hl 0 rfl) ?_
    refine lv_bipush (v := 10) hx hb dX5_isCopy_5 (by decide) ?_
    refine lv_icmp_ge (tgt := 14) hx hb dX5_isCopy_7 (by decide) (fun c_2 => ?_) (fun c_2 => ?_)
    · rw [if_pos c_2] at h
      refine lv_iconst (v := 0) hx hb dX5_isCopy_14 (by decide) ?_
      replace h := Option.some.inj h
      subst h
      exact W.zret (v := 0) (ty := .boolean) hx hb hr (by rfl) (fun t ht hW => ⟨_, rfl, rfl, ht⟩) (fun _ h => by cases h) dX5_isCopy_15
    · rw [if_neg c_2] at h
      refine lv_iconst (v := 1) hx hb dX5_isCopy_10 (by decide) ?_
      refine lv_goto (tgt := 15) hx hb dX5_isCopy_11 (by decide) ?_
      replace h := Option.some.inj h
      subst h
      exact W.zret (v := 1) (ty := .boolean) hx hb hr (by rfl) (fun t ht hW => ⟨_, rfl, rfl, ht⟩) (fun _ h => by cases h) dX5_isCopy_15
def F_X5_isWaiting (M : Mem) (p0 : Int32) : Option (Int32) :=
  (if p0 = 3 then some 1 else (if p0 = 4 then some 1 else some 0))
set_option maxHeartbeats 4000000 in
set_option maxRecDepth 100000 in
theorem k_X5_isWaiting (l : Launch) (dC : Nat → ClassId) (dI : Nat → Nat → Nat) (cI c9 : ClassId) (ad : Nat → Nat) (hI : Inj 100 ad) (M : Mem) (p0 : Int32) (q : Int32) (h : F_X5_isWaiting M p0 = some q) : Met l yX5_isWaiting wsX5_isWaiting ({ frames := 0, cells := 0, slots := 0, locals := 0 }) (gP dC dI cI c9 ad M [.int p0]) (vp_Si (fun x => x = q)) 0 0 (fun _ => False) := by
  refine Met.ofW (cc := cX5_isWaiting) (maxL := 1) (ret := (some .boolean)) (by decide) rfl ?_
  intro p e s m args below meth c s₁ B hml hv
  obtain ⟨rfl, hP, hKK, hKw⟩ := hv
  have hx := B.exec
  have hb := B.bytes
  have hr := B.returns
  have hts := atoms_spec (ws := wsX5_isWaiting) B.pre
  have hown : s.vm.findClass RX5 = some m.cls := findClass_of_methodNamed B.named
  have hlocks := B.notSynchronized
  have hl := lv_entry ([.int p0]) (n := 1) (Nat.le_of_ble_eq_true rfl)
  rw [lg_entry_eq]
  generalize (lg_sl ([.int p0]) ++ List.replicate (1 - (lg_sl ([.int p0])).length) Slot.unset).toArray = ls at hl ⊢
  have hl : lv_has ls 1 [(0, .int p0)] := hl
  unfold F_X5_isWaiting at h
  refine lv_iload_n hx hb dX5_isWaiting_0 rfl (lv_at hl 0 rfl) ?_
  refine lv_iconst (v := 3) hx hb dX5_isWaiting_1 (by decide) ?_
  refine lv_icmp_eq (tgt := 10) hx hb dX5_isWaiting_2 (by decide) (fun c_1 => ?_) (fun c_1 => ?_)
  · rw [if_pos c_1] at h
    refine lv_iconst (v := 1) hx hb dX5_isWaiting_10 (by decide) ?_
    refine lv_goto (tgt := 15) hx hb dX5_isWaiting_11 (by decide) ?_
    replace h := Option.some.inj h
    subst h
    exact W.zret (v := 1) (ty := .boolean) hx hb hr (by rfl) (fun t ht hW => ⟨_, rfl, rfl, ht⟩) (fun _ h => by cases h) dX5_isWaiting_15
  · rw [if_neg c_1] at h
    refine lv_iload_n hx hb dX5_isWaiting_5 rfl (lv_at hl 0 rfl) ?_
    refine lv_iconst (v := 4) hx hb dX5_isWaiting_6 (by decide) ?_
    refine lv_icmp_ne (tgt := 14) hx hb dX5_isWaiting_7 (by decide) (fun c_2 => ?_) (fun c_2 => ?_)
    · rw [if_neg c_2] at h
      refine lv_iconst (v := 0) hx hb dX5_isWaiting_14 (by decide) ?_
      replace h := Option.some.inj h
      subst h
      exact W.zret (v := 0) (ty := .boolean) hx hb hr (by rfl) (fun t ht hW => ⟨_, rfl, rfl, ht⟩) (fun _ h => by cases h) dX5_isWaiting_15
    · rw [if_pos c_2] at h
      refine lv_iconst (v := 1) hx hb dX5_isWaiting_10 (by decide) ?_
      refine lv_goto (tgt := 15) hx hb dX5_isWaiting_11 (by decide) ?_
      replace h := Option.some.inj h
      subst h
      exact W.zret (v := 1) (ty := .boolean) hx hb hr (by rfl) (fun t ht hW => ⟨_, rfl, rfl, ht⟩) (fun _ h => by cases h) dX5_isWaiting_15
def F_X1_way (M : Mem) (p0 : Int32) (p1 : Int32) : Option (Int32) :=
  some ((p0 * 12) + p1)
set_option maxHeartbeats 4000000 in
set_option maxRecDepth 100000 in
theorem k_X1_way (l : Launch) (dC : Nat → ClassId) (dI : Nat → Nat → Nat) (cI c9 : ClassId) (ad : Nat → Nat) (hI : Inj 100 ad) (M : Mem) (p0 : Int32) (p1 : Int32) (q : Int32) (h : F_X1_way M p0 p1 = some q) : Met l yX1_way wsX1_way ({ frames := 0, cells := 0, slots := 0, locals := 0 }) (gP dC dI cI c9 ad M [.int p0, .int p1]) (vp_Si (fun x => x = q)) 0 0 (fun _ => False) := by
  refine Met.ofW (cc := cX1_way) (maxL := 2) (ret := (some .int)) (by decide) rfl ?_
  intro p e s m args below meth c s₁ B hml hv
  obtain ⟨rfl, hP, hKK, hKw⟩ := hv
  have hx := B.exec
  have hb := B.bytes
  have hr := B.returns
  have hts := atoms_spec (ws := wsX1_way) B.pre
  have hown : s.vm.findClass RX1 = some m.cls := findClass_of_methodNamed B.named
  have hlocks := B.notSynchronized
  have hl := lv_entry ([.int p0, .int p1]) (n := 2) (Nat.le_of_ble_eq_true rfl)
  rw [lg_entry_eq]
  generalize (lg_sl ([.int p0, .int p1]) ++ List.replicate (2 - (lg_sl ([.int p0, .int p1])).length) Slot.unset).toArray = ls at hl ⊢
  have hl : lv_has ls 2 [(0, .int p0), (1, .int p1)] := hl
  unfold F_X1_way at h
  refine lv_iload_n hx hb dX1_way_0 rfl (lv_at hl 0 rfl) ?_
  refine lv_bipush (v := 12) hx hb dX1_way_1 (by decide) ?_
  refine lv_imul hx hb dX1_way_3 ?_
  refine lv_iload_n hx hb dX1_way_4 rfl (lv_at hl 1 rfl) ?_
  refine lv_iadd hx hb dX1_way_5 ?_
  replace h := Option.some.inj h
  subst h
  exact W.iret (v := ((p0 * 12) + p1)) hx hb hr (fun t ht hW => ⟨_, rfl, rfl, ht⟩) (fun _ h => by cases h) dX1_way_6
theorem jX5_isWork_X5 : ∀ w ∈ u_ws RX5 TX5 5, w ∈ wsX5_isWork := by decide +kernel
def F_X5_isWork (M : Mem) (p1 : Int32) : Option (Int32) :=
  (if p1 < 0 then some 0 else (if (M 0 1) ≤ p1 then some 0 else some 1))
set_option maxHeartbeats 4000000 in
set_option maxRecDepth 100000 in
theorem k_X5_isWork (l : Launch) (dC : Nat → ClassId) (dI : Nat → Nat → Nat) (cI c9 : ClassId) (ad : Nat → Nat) (hI : Inj 100 ad) (M : Mem) (p1 : Int32) (q : Int32) (h : F_X5_isWork M p1 = some q) : Met l yX5_isWork wsX5_isWork ({ frames := 0, cells := 0, slots := 0, locals := 0 }) (gP dC dI cI c9 ad M [.ref (ad 0), .int p1]) (vp_Si (fun x => x = q)) 0 0 (fun _ => False) := by
  refine Met.ofW (cc := cX5_isWork) (maxL := 2) (ret := (some .boolean)) (by decide) rfl ?_
  intro p e s m args below meth c s₁ B hml hv
  obtain ⟨rfl, hP, hKK, hKw⟩ := hv
  have hx := B.exec
  have hb := B.bytes
  have hr := B.returns
  have hts := atoms_spec (ws := wsX5_isWork) B.pre
  have hown : s.vm.findClass RX5 = some m.cls := findClass_of_methodNamed B.named
  have hlocks := B.notSynchronized
  have hl := lv_entry ([.ref (ad 0), .int p1]) (n := 2) (Nat.le_of_ble_eq_true rfl)
  rw [lg_entry_eq]
  generalize (lg_sl ([.ref (ad 0), .int p1]) ++ List.replicate (2 - (lg_sl ([.ref (ad 0), .int p1])).length) Slot.unset).toArray = ls at hl ⊢
  have hl : lv_has ls 2 [(0, .ref (ad 0)), (1, .int p1)] := hl
  unfold F_X5_isWork at h
  refine lv_iload_n hx hb dX5_isWork_0 rfl (lv_at hl 1 rfl) ?_
  refine lv_if_lt (tgt := 16) hx hb dX5_isWork_1 (by decide) (fun c_1 => ?_) (fun c_1 => ?_)
  · rw [if_pos c_1] at h
    refine lv_iconst (v := 0) hx hb dX5_isWork_16 (by decide) ?_
    replace h := Option.some.inj h
    subst h
    exact W.zret (v := 0) (ty := .boolean) hx hb hr (by rfl) (fun t ht hW => ⟨_, rfl, rfl, ht⟩) (fun _ h => by cases h) dX5_isWork_17
  · rw [if_neg c_1] at h
    refine lv_iload_n hx hb dX5_isWork_4 rfl (lv_at hl 1 rfl) ?_
    refine lv_aload_n hx hb dX5_isWork_5 rfl (lv_at hl 0 rfl) ?_
    refine va_get (D := (dC, dI)) (ci := 5) (v := .int (M 0 1)) (C := RX5) (T := TX5) (N := 5) hx hb hts jX5_isWork_X5 hown hKw hP 0 cw_lt rfl 1 (by decide) (hts (.fieldLink RX5 39 "LendThreads" "workCount" "I") (by decide +kernel)) (fun _ h9 => h9) rfl dX5_isWork_6 ?_
    refine lv_icmp_ge (tgt := 16) hx hb dX5_isWork_9 (by decide) (fun c_2 => ?_) (fun c_2 => ?_)
    · rw [if_pos c_2] at h
      refine lv_iconst (v := 0) hx hb dX5_isWork_16 (by decide) ?_
      replace h := Option.some.inj h
      subst h
      exact W.zret (v := 0) (ty := .boolean) hx hb hr (by rfl) (fun t ht hW => ⟨_, rfl, rfl, ht⟩) (fun _ h => by cases h) dX5_isWork_17
    · rw [if_neg c_2] at h
      refine lv_iconst (v := 1) hx hb dX5_isWork_12 (by decide) ?_
      refine lv_goto (tgt := 17) hx hb dX5_isWork_13 (by decide) ?_
      replace h := Option.some.inj h
      subst h
      exact W.zret (v := 1) (ty := .boolean) hx hb hr (by rfl) (fun t ht hW => ⟨_, rfl, rfl, ht⟩) (fun _ h => by cases h) dX5_isWork_17
theorem jX2_count_X2 : ∀ w ∈ u_ws RX2 TX2 3, w ∈ wsX2_count := by decide +kernel
def F_X2_count (M : Mem) (r : Nat) (p1 : Int32) : Option (Int32) :=
  (if p1 < 0 then some 0 else (if nI (ln (r + 1)) ≤ p1 then some 0 else gd (inb p1 (ln (r + 1))) <| some (M (r + 1) p1.toNatClampNeg)))
set_option maxHeartbeats 4000000 in
set_option maxRecDepth 100000 in
theorem k_X2_count (l : Launch) (dC : Nat → ClassId) (dI : Nat → Nat → Nat) (cI c9 : ClassId) (ad : Nat → Nat) (hI : Inj 100 ad) (M : Mem) (r : Nat) (hrk : rok r) (p1 : Int32) (q : Int32) (h : F_X2_count M r p1 = some q) : Met l yX2_count wsX2_count ({ frames := 0, cells := 0, slots := 0, locals := 0 }) (gP dC dI cI c9 ad M [.ref (ad r), .int p1]) (vp_Si (fun x => x = q)) 0 0 (fun _ => False) := by
  refine Met.ofW (cc := cX2_count) (maxL := 2) (ret := (some .int)) (by decide) rfl ?_
  intro p e s m args below meth c s₁ B hml hv
  obtain ⟨rfl, hP, hKK, hKw⟩ := hv
  have hx := B.exec
  have hb := B.bytes
  have hr := B.returns
  have hts := atoms_spec (ws := wsX2_count) B.pre
  have hown : s.vm.findClass RX2 = some m.cls := findClass_of_methodNamed B.named
  have hlocks := B.notSynchronized
  have hl := lv_entry ([.ref (ad r), .int p1]) (n := 2) (Nat.le_of_ble_eq_true rfl)
  rw [lg_entry_eq]
  generalize (lg_sl ([.ref (ad r), .int p1]) ++ List.replicate (2 - (lg_sl ([.ref (ad r), .int p1])).length) Slot.unset).toArray = ls at hl ⊢
  have hl : lv_has ls 2 [(0, .ref (ad r)), (1, .int p1)] := hl
  unfold F_X2_count at h
  refine lv_iload_n hx hb dX2_count_0 rfl (lv_at hl 1 rfl) ?_
  refine lv_if_lt (tgt := 22) hx hb dX2_count_1 (by decide) (fun c_1 => ?_) (fun c_1 => ?_)
  · rw [if_pos c_1] at h
    refine lv_iconst (v := 0) hx hb dX2_count_22 (by decide) ?_
    replace h := Option.some.inj h
    subst h
    exact W.iret (v := 0) hx hb hr (fun t ht hW => ⟨_, rfl, rfl, ht⟩) (fun _ h => by cases h) dX2_count_23
  · rw [if_neg c_1] at h
    refine lv_iload_n hx hb dX2_count_4 rfl (lv_at hl 1 rfl) ?_
    refine lv_aload_n hx hb dX2_count_5 rfl (lv_at hl 0 rfl) ?_
    refine va_get (D := (dC, dI)) (ci := 2) (v := .ref (ad (r + 1))) (C := RX2) (T := TX2) (N := 3) hx hb hts jX2_count_X2 hown hKw hP r (cw_rows hrk.lt hrk.k0) rfl 1 (by decide) (hts (.fieldLink RX2 15 "LendThreads$Rows" "counts" "[I") (by decide +kernel)) (fun _ h9 => h9) rfl dX2_count_6 ?_
    refine va_alen (v := nI (ln (r + 1))) hx hb hKw hP (r + 1) 0 (cw_arr hrk.lt1 hrk.k1) rfl rfl dX2_count_9 ?_
    refine lv_icmp_ge (tgt := 22) hx hb dX2_count_10 (by decide) (fun c_2 => ?_) (fun c_2 => ?_)
    · rw [if_pos c_2] at h
      refine lv_iconst (v := 0) hx hb dX2_count_22 (by decide) ?_
      replace h := Option.some.inj h
      subst h
      exact W.iret (v := 0) hx hb hr (fun t ht hW => ⟨_, rfl, rfl, ht⟩) (fun _ h => by cases h) dX2_count_23
    · rw [if_neg c_2] at h
      refine lv_aload_n hx hb dX2_count_13 rfl (lv_at hl 0 rfl) ?_
      refine va_get (D := (dC, dI)) (ci := 2) (v := .ref (ad (r + 1))) (C := RX2) (T := TX2) (N := 3) hx hb hts jX2_count_X2 hown hKw hP r (cw_rows hrk.lt hrk.k0) rfl 1 (by decide) (hts (.fieldLink RX2 15 "LendThreads$Rows" "counts" "[I") (by decide +kernel)) (fun _ h9 => h9) rfl dX2_count_14 ?_
      refine lv_iload_n hx hb dX2_count_17 rfl (lv_at hl 1 rfl) ?_
      obtain ⟨g_3, h⟩ := gd_some h
      refine va_iald hx hb hKw hP (r + 1) 0 (cw_arr hrk.lt1 hrk.k1) rfl (inb_in g_3) dX2_count_18 ?_
      refine lv_goto (tgt := 23) hx hb dX2_count_19 (by decide) ?_
      replace h := Option.some.inj h
      subst h
      exact W.iret (v := (M (r + 1) p1.toNatClampNeg)) hx hb hr (fun t ht hW => ⟨_, rfl, rfl, ht⟩) (fun _ h => by cases h) dX2_count_23
theorem jX2_item_X2 : ∀ w ∈ u_ws RX2 TX2 3, w ∈ wsX2_item := by decide +kernel
def F_X2_item (M : Mem) (r : Nat) (p1 : Int32) (p2 : Int32) : Option (Int32) :=
  (if p2 < 0 then some (-1) else bi (F_X2_count M r p1) fun q_2 => (if q_2 ≤ p2 then some (-1) else gd (inb ((p1 * (M r 0)) + p2) (ln (r + 2))) <| some (M (r + 2) ((p1 * (M r 0)) + p2).toNatClampNeg)))
set_option maxHeartbeats 4000000 in
set_option maxRecDepth 100000 in
theorem k_X2_item (l : Launch) (dC : Nat → ClassId) (dI : Nat → Nat → Nat) (cI c9 : ClassId) (ad : Nat → Nat) (hI : Inj 100 ad) (M : Mem) (r : Nat) (hrk : rok r) (p1 : Int32) (p2 : Int32) (q : Int32) (h : F_X2_item M r p1 p2 = some q) : Met l yX2_item wsX2_item ({ frames := 1, cells := 0, slots := 0, locals := 21 }) (gP dC dI cI c9 ad M [.ref (ad r), .int p1, .int p2]) (vp_Si (fun x => x = q)) 0 0 (fun _ => False) := by
  refine Met.ofW (cc := cX2_item) (maxL := 3) (ret := (some .int)) (by decide) rfl ?_
  intro p e s m args below meth c s₁ B hml hv
  obtain ⟨rfl, hP, hKK, hKw⟩ := hv
  have hx := B.exec
  have hb := B.bytes
  have hr := B.returns
  have hts := atoms_spec (ws := wsX2_item) B.pre
  have hown : s.vm.findClass RX2 = some m.cls := findClass_of_methodNamed B.named
  have hlocks := B.notSynchronized
  have hl := lv_entry ([.ref (ad r), .int p1, .int p2]) (n := 3) (Nat.le_of_ble_eq_true rfl)
  rw [lg_entry_eq]
  generalize (lg_sl ([.ref (ad r), .int p1, .int p2]) ++ List.replicate (3 - (lg_sl ([.ref (ad r), .int p1, .int p2])).length) Slot.unset).toArray = ls at hl ⊢
  have hl : lv_has ls 3 [(0, .ref (ad r)), (1, .int p1), (2, .int p2)] := hl
  unfold F_X2_item at h
  refine lv_iload_n hx hb dX2_item_0 rfl (lv_at hl 2 rfl) ?_
  refine lv_if_lt (tgt := 29) hx hb dX2_item_1 (by decide) (fun c_1 => ?_) (fun c_1 => ?_)
  · rw [if_pos c_1] at h
    refine lv_iconst (v := (-1)) hx hb dX2_item_29 (by decide) ?_
    replace h := Option.some.inj h
    subst h
    exact W.iret (v := (-1)) hx hb hr (fun t ht hW => ⟨_, rfl, rfl, ht⟩) (fun _ h => by cases h) dX2_item_30
  · rw [if_neg c_1] at h
    refine lv_iload_n hx hb dX2_item_4 rfl (lv_at hl 2 rfl) ?_
    refine lv_aload_n hx hb dX2_item_5 rfl (lv_at hl 0 rfl) ?_
    refine lv_iload_n hx hb dX2_item_6 rfl (lv_at hl 1 rfl) ?_
    obtain ⟨q_2, hq_2, h⟩ := bi_some h
    refine vp_callSi (va_Run.run (va_runV (As := [.int p1]) (rest := [.int p2]) ⟨hx, hb, hml, hown, hts⟩ (k_X2_count l dC dI cI c9 ad hI M r hrk p1 q_2 hq_2) (cwV 1 hts gX2_item_X2_count rfl rfl rfl (by decide +kernel) ⟨Nat.le_of_ble_eq_true rfl, Nat.le_of_ble_eq_true rfl⟩) (gP_preV hKK hKw hP (va_recv hKw hP (ci := 2) (q0 := r) rfl (cw_rows hrk.lt hrk.k0))) rfl rfl hl.1 rfl (lv_room (Nat.le_of_ble_eq_true rfl)) dX2_item_7 ⟨Nat.zero_le _, Nat.zero_le _⟩)) (fun r_3 hr_3 => ?_)
    replace hr_3 := hr_3.symm
    subst hr_3
    refine lv_icmp_ge (tgt := 29) hx hb dX2_item_10 (by decide) (fun c_4 => ?_) (fun c_4 => ?_)
    · rw [if_pos c_4] at h
      refine lv_iconst (v := (-1)) hx hb dX2_item_29 (by decide) ?_
      replace h := Option.some.inj h
      subst h
      exact W.iret (v := (-1)) hx hb hr (fun t ht hW => ⟨_, rfl, rfl, ht⟩) (fun _ h => by cases h) dX2_item_30
    · rw [if_neg c_4] at h
      refine lv_aload_n hx hb dX2_item_13 rfl (lv_at hl 0 rfl) ?_
      refine va_get (D := (dC, dI)) (ci := 2) (v := .ref (ad (r + 2))) (C := RX2) (T := TX2) (N := 3) hx hb hts jX2_item_X2 hown hKw hP r (cw_rows hrk.lt hrk.k0) rfl 2 (by decide) (hts (.fieldLink RX2 19 "LendThreads$Rows" "items" "[I") (by decide +kernel)) (fun _ h9 => h9) rfl dX2_item_14 ?_
      refine lv_iload_n hx hb dX2_item_17 rfl (lv_at hl 1 rfl) ?_
      refine lv_aload_n hx hb dX2_item_18 rfl (lv_at hl 0 rfl) ?_
      refine va_get (D := (dC, dI)) (ci := 2) (v := .int (M r 0)) (C := RX2) (T := TX2) (N := 3) hx hb hts jX2_item_X2 hown hKw hP r (cw_rows hrk.lt hrk.k0) rfl 0 (by decide) (hts (.fieldLink RX2 9 "LendThreads$Rows" "room" "I") (by decide +kernel)) (fun _ h9 => h9) rfl dX2_item_19 ?_
      refine lv_imul hx hb dX2_item_22 ?_
      refine lv_iload_n hx hb dX2_item_23 rfl (lv_at hl 2 rfl) ?_
      refine lv_iadd hx hb dX2_item_24 ?_
      obtain ⟨g_5, h⟩ := gd_some h
      refine va_iald hx hb hKw hP (r + 2) 0 (cw_arr hrk.lt2 hrk.k2) rfl (inb_in g_5) dX2_item_25 ?_
      refine lv_goto (tgt := 30) hx hb dX2_item_26 (by decide) ?_
      replace h := Option.some.inj h
      subst h
      exact W.iret (v := (M (r + 2) ((p1 * (M r 0)) + p2).toNatClampNeg)) hx hb hr (fun t ht hW => ⟨_, rfl, rfl, ht⟩) (fun _ h => by cases h) dX2_item_30
theorem jX2_add_X2 : ∀ w ∈ u_ws RX2 TX2 3, w ∈ wsX2_add := by decide +kernel
def F_X2_add (M : Mem) (r : Nat) (p1 : Int32) (p2 : Int32) : Option (Int32 × Mem) :=
  (if p1 < 0 then some ((-4), M) else (if nI (ln (r + 1)) ≤ p1 then some ((-4), M) else gd (inb p1 (ln (r + 1))) <| (if (M (r + 1) p1.toNatClampNeg) < (M r 0) then gd (inb p1 (ln (r + 1))) <| gd (inb ((p1 * (M r 0)) + (M (r + 1) p1.toNatClampNeg)) (ln (r + 2))) <| bm (up2 M (r + 2) (((p1 * (M r 0)) + (M (r + 1) p1.toNatClampNeg)).toNatClampNeg) p2) fun M_7 => gd (inb p1 (ln (r + 1))) <| gd (inb p1 (ln (r + 1))) <| bm (up2 M_7 (r + 1) p1.toNatClampNeg ((M_7 (r + 1) p1.toNatClampNeg) + 1)) fun M_10 => gd (inb p1 (ln (r + 1))) <| some ((M_10 (r + 1) p1.toNatClampNeg), M_10) else some ((-4), M))))
set_option maxHeartbeats 4000000 in
set_option maxRecDepth 100000 in
theorem k_X2_add (l : Launch) (dC : Nat → ClassId) (dI : Nat → Nat → Nat) (cI c9 : ClassId) (ad : Nat → Nat) (hI : Inj 100 ad) (M : Mem) (r : Nat) (hrk : rok r) (p1 : Int32) (p2 : Int32) (q : Int32 × Mem) (h : F_X2_add M r p1 p2 = some q) : Met l yX2_add wsX2_add ({ frames := 0, cells := 0, slots := 0, locals := 0 }) (gP dC dI cI c9 ad M [.ref (ad r), .int p1, .int p2]) (va_Qi (fun x M' => x = q.1 ∧ M' = q.2) (fun M' t => va_P (dC, dI) vwCl (cW cI c9 ad M') t.heap) (Ac 100 ad)) 0 0 (Ac 100 ad) := by
  refine Met.ofW (cc := cX2_add) (maxL := 3) (ret := (some .int)) (by decide) rfl ?_
  intro p e s m args below meth c s₁ B hml hv
  obtain ⟨rfl, hP, hKK, hKw⟩ := hv
  have hx := B.exec
  have hb := B.bytes
  have hr := B.returns
  have hts := atoms_spec (ws := wsX2_add) B.pre
  have hown : s.vm.findClass RX2 = some m.cls := findClass_of_methodNamed B.named
  have hlocks := B.notSynchronized
  have hD := cwl_D hI (enc cI c9 ad M)
  have hS : va_S (Ac 100 ad) s.heap s.heap [] := va_S.rf
  have hl := lv_entry ([.ref (ad r), .int p1, .int p2]) (n := 3) (Nat.le_of_ble_eq_true rfl)
  rw [lg_entry_eq]
  generalize (lg_sl ([.ref (ad r), .int p1, .int p2]) ++ List.replicate (3 - (lg_sl ([.ref (ad r), .int p1, .int p2])).length) Slot.unset).toArray = ls at hl ⊢
  have hl : lv_has ls 3 [(0, .ref (ad r)), (1, .int p1), (2, .int p2)] := hl
  unfold F_X2_add at h
  refine lv_iload_n hx hb dX2_add_0 rfl (lv_at hl 1 rfl) ?_
  refine lv_if_lt (tgt := 26) hx hb dX2_add_1 (by decide) (fun c_1 => ?_) (fun c_1 => ?_)
  · rw [if_pos c_1] at h
    refine lv_bipush (v := (-4)) hx hb dX2_add_26 (by decide) ?_
    replace h := Option.some.inj h
    subst h
    exact W.iret (v := (-4)) hx hb hr (fun t ht hW => ⟨⟨_, _, rfl, ⟨rfl, rfl⟩, (show va_P (dC, dI) vwCl (cW cI c9 ad M) t.heap by rw [ht]; exact hP)⟩, hS.F ht⟩) hS.2.2 dX2_add_28
  · rw [if_neg c_1] at h
    refine lv_iload_n hx hb dX2_add_4 rfl (lv_at hl 1 rfl) ?_
    refine lv_aload_n hx hb dX2_add_5 rfl (lv_at hl 0 rfl) ?_
    refine va_get (D := (dC, dI)) (ci := 2) (v := .ref (ad (r + 1))) (C := RX2) (T := TX2) (N := 3) hx hb hts jX2_add_X2 hown hKw hP r (cw_rows hrk.lt hrk.k0) rfl 1 (by decide) (hts (.fieldLink RX2 15 "LendThreads$Rows" "counts" "[I") (by decide +kernel)) (fun _ h9 => h9) rfl dX2_add_6 ?_
    refine va_alen (v := nI (ln (r + 1))) hx hb hKw hP (r + 1) 0 (cw_arr hrk.lt1 hrk.k1) rfl rfl dX2_add_9 ?_
    refine lv_icmp_ge (tgt := 26) hx hb dX2_add_10 (by decide) (fun c_2 => ?_) (fun c_2 => ?_)
    · rw [if_pos c_2] at h
      refine lv_bipush (v := (-4)) hx hb dX2_add_26 (by decide) ?_
      replace h := Option.some.inj h
      subst h
      exact W.iret (v := (-4)) hx hb hr (fun t ht hW => ⟨⟨_, _, rfl, ⟨rfl, rfl⟩, (show va_P (dC, dI) vwCl (cW cI c9 ad M) t.heap by rw [ht]; exact hP)⟩, hS.F ht⟩) hS.2.2 dX2_add_28
    · rw [if_neg c_2] at h
      refine lv_aload_n hx hb dX2_add_13 rfl (lv_at hl 0 rfl) ?_
      refine va_get (D := (dC, dI)) (ci := 2) (v := .ref (ad (r + 1))) (C := RX2) (T := TX2) (N := 3) hx hb hts jX2_add_X2 hown hKw hP r (cw_rows hrk.lt hrk.k0) rfl 1 (by decide) (hts (.fieldLink RX2 15 "LendThreads$Rows" "counts" "[I") (by decide +kernel)) (fun _ h9 => h9) rfl dX2_add_14 ?_
      refine lv_iload_n hx hb dX2_add_17 rfl (lv_at hl 1 rfl) ?_
      obtain ⟨g_3, h⟩ := gd_some h
      refine va_iald hx hb hKw hP (r + 1) 0 (cw_arr hrk.lt1 hrk.k1) rfl (inb_in g_3) dX2_add_18 ?_
      refine lv_aload_n hx hb dX2_add_19 rfl (lv_at hl 0 rfl) ?_
      refine va_get (D := (dC, dI)) (ci := 2) (v := .int (M r 0)) (C := RX2) (T := TX2) (N := 3) hx hb hts jX2_add_X2 hown hKw hP r (cw_rows hrk.lt hrk.k0) rfl 0 (by decide) (hts (.fieldLink RX2 9 "LendThreads$Rows" "room" "I") (by decide +kernel)) (fun _ h9 => h9) rfl dX2_add_20 ?_
      refine lv_icmp_lt (tgt := 29) hx hb dX2_add_23 (by decide) (fun c_4 => ?_) (fun c_4 => ?_)
      · rw [if_pos c_4] at h
        refine lv_aload_n hx hb dX2_add_29 rfl (lv_at hl 0 rfl) ?_
        refine va_get (D := (dC, dI)) (ci := 2) (v := .ref (ad (r + 2))) (C := RX2) (T := TX2) (N := 3) hx hb hts jX2_add_X2 hown hKw hP r (cw_rows hrk.lt hrk.k0) rfl 2 (by decide) (hts (.fieldLink RX2 19 "LendThreads$Rows" "items" "[I") (by decide +kernel)) (fun _ h9 => h9) rfl dX2_add_30 ?_
        refine lv_iload_n hx hb dX2_add_33 rfl (lv_at hl 1 rfl) ?_
        refine lv_aload_n hx hb dX2_add_34 rfl (lv_at hl 0 rfl) ?_
        refine va_get (D := (dC, dI)) (ci := 2) (v := .int (M r 0)) (C := RX2) (T := TX2) (N := 3) hx hb hts jX2_add_X2 hown hKw hP r (cw_rows hrk.lt hrk.k0) rfl 0 (by decide) (hts (.fieldLink RX2 9 "LendThreads$Rows" "room" "I") (by decide +kernel)) (fun _ h9 => h9) rfl dX2_add_35 ?_
        refine lv_imul hx hb dX2_add_38 ?_
        refine lv_aload_n hx hb dX2_add_39 rfl (lv_at hl 0 rfl) ?_
        refine va_get (D := (dC, dI)) (ci := 2) (v := .ref (ad (r + 1))) (C := RX2) (T := TX2) (N := 3) hx hb hts jX2_add_X2 hown hKw hP r (cw_rows hrk.lt hrk.k0) rfl 1 (by decide) (hts (.fieldLink RX2 15 "LendThreads$Rows" "counts" "[I") (by decide +kernel)) (fun _ h9 => h9) rfl dX2_add_40 ?_
        refine lv_iload_n hx hb dX2_add_43 rfl (lv_at hl 1 rfl) ?_
        obtain ⟨g_5, h⟩ := gd_some h
        refine va_iald hx hb hKw hP (r + 1) 0 (cw_arr hrk.lt1 hrk.k1) rfl (inb_in g_5) dX2_add_44 ?_
        refine lv_iadd hx hb dX2_add_45 ?_
        refine lv_iload_n hx hb dX2_add_46 rfl (lv_at hl 2 rfl) ?_
        obtain ⟨g_6, h⟩ := gd_some h
        refine va_iast hx hb hKw hP hD hS (r + 2) 0 (cw_arr hrk.lt2 hrk.k2) rfl (inb_in g_6) dX2_add_47 (fun H locs hP _ hS => ?_)
        have hP : va_P (dC, dI) vwCl (cW cI c9 ad (up2 M (r + 2) (((p1 * (M r 0)) + (M (r + 1) p1.toNatClampNeg)).toNatClampNeg) p2)) H := by show va_P (dC, dI) vwCl (cwl 100 ad (enc cI c9 ad (up2 M (r + 2) (((p1 * (M r 0)) + (M (r + 1) p1.toNatClampNeg)).toNatClampNeg) p2))) H; unfold up2; rw [← en_arr hrk.k2, ← cwl_set hrk.lt2]; exact hP
        have hD := cwl_D hI (enc cI c9 ad (up2 M (r + 2) (((p1 * (M r 0)) + (M (r + 1) p1.toNatClampNeg)).toNatClampNeg) p2))
        generalize up2 M (r + 2) (((p1 * (M r 0)) + (M (r + 1) p1.toNatClampNeg)).toNatClampNeg) p2 = M_7 at hP hD h
        replace h := bm_e h
        try dsimp only at h
        refine lv_aload_n hx hb dX2_add_48 rfl (lv_at hl 0 rfl) ?_
        refine va_get (D := (dC, dI)) (ci := 2) (v := .ref (ad (r + 1))) (C := RX2) (T := TX2) (N := 3) hx hb hts jX2_add_X2 hown hKw hP r (cw_rows hrk.lt hrk.k0) rfl 1 (by decide) (hts (.fieldLink RX2 15 "LendThreads$Rows" "counts" "[I") (by decide +kernel)) (fun _ h9 => h9) rfl dX2_add_49 ?_
        refine lv_iload_n hx hb dX2_add_52 rfl (lv_at hl 1 rfl) ?_
        refine lv_dup2_11 hx hb dX2_add_53 rfl rfl ?_
        obtain ⟨g_8, h⟩ := gd_some h
        refine va_iald hx hb hKw hP (r + 1) 0 (cw_arr hrk.lt1 hrk.k1) rfl (inb_in g_8) dX2_add_54 ?_
        refine lv_iconst (v := 1) hx hb dX2_add_55 (by decide) ?_
        refine lv_iadd hx hb dX2_add_56 ?_
        obtain ⟨g_9, h⟩ := gd_some h
        refine va_iast hx hb hKw hP hD hS (r + 1) 0 (cw_arr hrk.lt1 hrk.k1) rfl (inb_in g_9) dX2_add_57 (fun H locs hP _ hS => ?_)
        have hP : va_P (dC, dI) vwCl (cW cI c9 ad (up2 M_7 (r + 1) p1.toNatClampNeg ((M_7 (r + 1) p1.toNatClampNeg) + 1))) H := by show va_P (dC, dI) vwCl (cwl 100 ad (enc cI c9 ad (up2 M_7 (r + 1) p1.toNatClampNeg ((M_7 (r + 1) p1.toNatClampNeg) + 1)))) H; unfold up2; rw [← en_arr hrk.k1, ← cwl_set hrk.lt1]; exact hP
        have hD := cwl_D hI (enc cI c9 ad (up2 M_7 (r + 1) p1.toNatClampNeg ((M_7 (r + 1) p1.toNatClampNeg) + 1)))
        generalize up2 M_7 (r + 1) p1.toNatClampNeg ((M_7 (r + 1) p1.toNatClampNeg) + 1) = M_10 at hP hD h
        replace h := bm_e h
        try dsimp only at h
        refine lv_aload_n hx hb dX2_add_58 rfl (lv_at hl 0 rfl) ?_
        refine va_get (D := (dC, dI)) (ci := 2) (v := .ref (ad (r + 1))) (C := RX2) (T := TX2) (N := 3) hx hb hts jX2_add_X2 hown hKw hP r (cw_rows hrk.lt hrk.k0) rfl 1 (by decide) (hts (.fieldLink RX2 15 "LendThreads$Rows" "counts" "[I") (by decide +kernel)) (fun _ h9 => h9) rfl dX2_add_59 ?_
        refine lv_iload_n hx hb dX2_add_62 rfl (lv_at hl 1 rfl) ?_
        obtain ⟨g_11, h⟩ := gd_some h
        refine va_iald hx hb hKw hP (r + 1) 0 (cw_arr hrk.lt1 hrk.k1) rfl (inb_in g_11) dX2_add_63 ?_
        replace h := Option.some.inj h
        subst h
        exact W.iret (v := (M_10 (r + 1) p1.toNatClampNeg)) hx hb hr (fun t ht hW => ⟨⟨_, _, rfl, ⟨rfl, rfl⟩, (show va_P (dC, dI) vwCl (cW cI c9 ad M_10) t.heap by rw [ht]; exact hP)⟩, hS.F ht⟩) hS.2.2 dX2_add_64
      · rw [if_neg c_4] at h
        refine lv_bipush (v := (-4)) hx hb dX2_add_26 (by decide) ?_
        replace h := Option.some.inj h
        subst h
        exact W.iret (v := (-4)) hx hb hr (fun t ht hW => ⟨⟨_, _, rfl, ⟨rfl, rfl⟩, (show va_P (dC, dI) vwCl (cW cI c9 ad M) t.heap by rw [ht]; exact hP)⟩, hS.F ht⟩) hS.2.2 dX2_add_28
theorem jX2_placeOf_X2 : ∀ w ∈ u_ws RX2 TX2 3, w ∈ wsX2_placeOf := by decide +kernel
def L_X2_placeOf_9 (K : Int32 → Option (Int32)) (M : Mem) (q_1 : Int32) (p1 : Int32) (p2 : Int32) (r : Nat) : Nat → Int32 → Option (Int32)
  | 0, _ => none
  | n + 1, v4_9 => (if q_1 ≤ v4_9 then K v4_9 else gd (inb ((p1 * (M r 0)) + v4_9) (ln (r + 2))) <| (if (M (r + 2) ((p1 * (M r 0)) + v4_9).toNatClampNeg) = p2 then some v4_9 else L_X2_placeOf_9 K M q_1 p1 p2 r n (v4_9 + 1)))
def F_X2_placeOf (M : Mem) (r : Nat) (p1 : Int32) (p2 : Int32) : Option (Int32) :=
  bi (F_X2_count M r p1) fun q_1 => L_X2_placeOf_9 (fun v4_9 => some (-1)) M q_1 p1 p2 r 4000 0
set_option maxHeartbeats 4000000 in
set_option maxRecDepth 100000 in
theorem k_X2_placeOf (l : Launch) (dC : Nat → ClassId) (dI : Nat → Nat → Nat) (cI c9 : ClassId) (ad : Nat → Nat) (hI : Inj 100 ad) (M : Mem) (r : Nat) (hrk : rok r) (p1 : Int32) (p2 : Int32) (q : Int32) (h : F_X2_placeOf M r p1 p2 = some q) : Met l yX2_placeOf wsX2_placeOf ({ frames := 1, cells := 0, slots := 0, locals := 21 }) (gP dC dI cI c9 ad M [.ref (ad r), .int p1, .int p2]) (vp_Si (fun x => x = q)) 0 0 (fun _ => False) := by
  refine Met.ofW (cc := cX2_placeOf) (maxL := 5) (ret := (some .int)) (by decide) rfl ?_
  intro p e s m args below meth c s₁ B hml hv
  obtain ⟨rfl, hP, hKK, hKw⟩ := hv
  have hx := B.exec
  have hb := B.bytes
  have hr := B.returns
  have hts := atoms_spec (ws := wsX2_placeOf) B.pre
  have hown : s.vm.findClass RX2 = some m.cls := findClass_of_methodNamed B.named
  have hlocks := B.notSynchronized
  have hl := lv_entry ([.ref (ad r), .int p1, .int p2]) (n := 5) (Nat.le_of_ble_eq_true rfl)
  rw [lg_entry_eq]
  generalize (lg_sl ([.ref (ad r), .int p1, .int p2]) ++ List.replicate (5 - (lg_sl ([.ref (ad r), .int p1, .int p2])).length) Slot.unset).toArray = ls at hl ⊢
  have hl : lv_has ls 5 [(0, .ref (ad r)), (1, .int p1), (2, .int p2)] := hl
  unfold F_X2_placeOf at h
  refine lv_aload_n hx hb dX2_placeOf_0 rfl (lv_at hl 0 rfl) ?_
  refine lv_iload_n hx hb dX2_placeOf_1 rfl (lv_at hl 1 rfl) ?_
  obtain ⟨q_1, hq_1, h⟩ := bi_some h
  refine vp_callSi (va_Run.run (va_runV (As := [.int p1]) (rest := []) ⟨hx, hb, hml, hown, hts⟩ (k_X2_count l dC dI cI c9 ad hI M r hrk p1 q_1 hq_1) (cwV 1 hts gX2_placeOf_X2_count rfl rfl rfl (by decide +kernel) ⟨Nat.le_of_ble_eq_true rfl, Nat.le_of_ble_eq_true rfl⟩) (gP_preV hKK hKw hP (va_recv hKw hP (ci := 2) (q0 := r) rfl (cw_rows hrk.lt hrk.k0))) rfl rfl hl.1 rfl (lv_room (Nat.le_of_ble_eq_true rfl)) dX2_placeOf_2 ⟨Nat.zero_le _, Nat.zero_le _⟩)) (fun r_2 hr_2 => ?_)
  replace hr_2 := hr_2.symm
  subst hr_2
  refine lv_istore_n (lv' := [(3, .int q_1), (0, .ref (ad r)), (1, .int p1), (2, .int p2)]) hx hb dX2_placeOf_5 rfl hl (by decide) rfl (fun ls hl => ?_)
  refine lv_iconst (v := 0) hx hb dX2_placeOf_6 (by decide) ?_
  refine lv_istore (lv' := [(4, .int 0), (3, .int q_1), (0, .ref (ad r)), (1, .int p1), (2, .int p2)]) hx hb dX2_placeOf_7 hl (by decide) rfl (fun ls hl => ?_)
  have key9 : ∀ (K : Int32 → Option (Int32)), (∀ (v4_9 : Int32) (ls : Array Slot), K v4_9 = some q → lv_has ls 5 [(4, .int v4_9), (3, .int q_1), (0, .ref (ad r)), (1, .int p1), (2, .int p2)] → W p l e (headSpec wsX2_placeOf ({ frames := 1, cells := 0, slots := 0, locals := 21 })).room s m ([.ref (ad r), .int p1, .int p2] : List Value).toArray below meth c s.heap [] 0 0 (MQ below (vp_Si (fun x => x = q)) ([.ref (ad r), .int p1, .int p2] : List Value).toArray s 0 0 (fun _ => False)) (F0 m 42 ls [])) → ∀ (n : Nat), ∀ (v4_9 : Int32) (ls : Array Slot), L_X2_placeOf_9 K M q_1 p1 p2 r n v4_9 = some q → lv_has ls 5 [(4, .int v4_9), (3, .int q_1), (0, .ref (ad r)), (1, .int p1), (2, .int p2)] → W p l e (headSpec wsX2_placeOf ({ frames := 1, cells := 0, slots := 0, locals := 21 })).room s m ([.ref (ad r), .int p1, .int p2] : List Value).toArray below meth c s.heap [] 0 0 (MQ below (vp_Si (fun x => x = q)) ([.ref (ad r), .int p1, .int p2] : List Value).toArray s 0 0 (fun _ => False)) (F0 m 9 ls []) := by
    intro K hk n
    induction n with
    | zero =>
      intro v4_9 ls h
      exact absurd h (by simp [L_X2_placeOf_9])
    | succ n ih =>
      intro v4_9 ls h  hl
      simp only [L_X2_placeOf_9] at h
      refine lv_iload hx hb dX2_placeOf_9 (lv_at hl 0 rfl) ?_
      refine lv_iload_n hx hb dX2_placeOf_11 rfl (lv_at hl 1 rfl) ?_
      refine lv_icmp_ge (tgt := 42) hx hb dX2_placeOf_12 (by decide) (fun c_3 => ?_) (fun c_3 => ?_)
      · rw [if_pos c_3] at h
        exact hk v4_9 _ h (lv_sub hl [0, 1, 2, 3, 4] rfl)
      · rw [if_neg c_3] at h
        refine lv_aload_n hx hb dX2_placeOf_15 rfl (lv_at hl 2 rfl) ?_
        refine va_get (D := (dC, dI)) (ci := 2) (v := .ref (ad (r + 2))) (C := RX2) (T := TX2) (N := 3) hx hb hts jX2_placeOf_X2 hown hKw hP r (cw_rows hrk.lt hrk.k0) rfl 2 (by decide) (hts (.fieldLink RX2 19 "LendThreads$Rows" "items" "[I") (by decide +kernel)) (fun _ h9 => h9) rfl dX2_placeOf_16 ?_
        refine lv_iload_n hx hb dX2_placeOf_19 rfl (lv_at hl 3 rfl) ?_
        refine lv_aload_n hx hb dX2_placeOf_20 rfl (lv_at hl 2 rfl) ?_
        refine va_get (D := (dC, dI)) (ci := 2) (v := .int (M r 0)) (C := RX2) (T := TX2) (N := 3) hx hb hts jX2_placeOf_X2 hown hKw hP r (cw_rows hrk.lt hrk.k0) rfl 0 (by decide) (hts (.fieldLink RX2 9 "LendThreads$Rows" "room" "I") (by decide +kernel)) (fun _ h9 => h9) rfl dX2_placeOf_21 ?_
        refine lv_imul hx hb dX2_placeOf_24 ?_
        refine lv_iload hx hb dX2_placeOf_25 (lv_at hl 0 rfl) ?_
        refine lv_iadd hx hb dX2_placeOf_27 ?_
        obtain ⟨g_4, h⟩ := gd_some h
        refine va_iald hx hb hKw hP (r + 2) 0 (cw_arr hrk.lt2 hrk.k2) rfl (inb_in g_4) dX2_placeOf_28 ?_
        refine lv_iload_n hx hb dX2_placeOf_29 rfl (lv_at hl 4 rfl) ?_
        refine lv_icmp_ne (tgt := 36) hx hb dX2_placeOf_30 (by decide) (fun c_5 => ?_) (fun c_5 => ?_)
        · rw [if_neg c_5] at h
          refine lv_iinc (v := v4_9 + 1) (lv' := [(4, .int (v4_9 + 1)), (3, .int q_1), (0, .ref (ad r)), (1, .int p1), (2, .int p2)]) hx hb dX2_placeOf_36 hl (k := 0) rfl rfl (by decide) rfl (fun ls hl => ?_)
          refine lv_goto (tgt := 9) hx hb dX2_placeOf_39 (by decide) ?_
          exact ih (v4_9 + 1) _ h (lv_sub hl [0, 1, 2, 3, 4] rfl)
        · rw [if_pos c_5] at h
          refine lv_iload hx hb dX2_placeOf_33 (lv_at hl 0 rfl) ?_
          replace h := Option.some.inj h
          subst h
          exact W.iret (v := v4_9) hx hb hr (fun t ht hW => ⟨_, rfl, rfl, ht⟩) (fun _ h => by cases h) dX2_placeOf_35
  refine key9 _ (fun v4_9 ls h  hl => ?_) 4000 0 _ h (lv_sub hl [0, 1, 2, 3, 4] rfl)
  try dsimp only at h
  refine lv_iconst (v := (-1)) hx hb dX2_placeOf_42 (by decide) ?_
  replace h := Option.some.inj h
  subst h
  exact W.iret (v := (-1)) hx hb hr (fun t ht hW => ⟨_, rfl, rfl, ht⟩) (fun _ h => by cases h) dX2_placeOf_43
theorem jX2_remove_X2 : ∀ w ∈ u_ws RX2 TX2 3, w ∈ wsX2_remove := by decide +kernel
def L_X2_remove_26 (K : Mem → Int32 → Option (Mem)) (q_1 : Int32) (p1 : Int32) (p2 : Int32) (r : Nat) : Nat → Mem → Int32 → Option (Mem)
  | 0, _, _ => none
  | n + 1, M_7, v4_26 => gd (inb p1 (ln (r + 1))) <| (if (M_7 (r + 1) p1.toNatClampNeg) ≤ v4_26 then K M_7 v4_26 else gd (inb (((p1 * (M_7 r 0)) + v4_26) + 1) (ln (r + 2))) <| gd (inb ((p1 * (M_7 r 0)) + v4_26) (ln (r + 2))) <| bm (up2 M_7 (r + 2) (((p1 * (M_7 r 0)) + v4_26).toNatClampNeg) (M_7 (r + 2) (((p1 * (M_7 r 0)) + v4_26) + 1).toNatClampNeg)) fun M_12 => L_X2_remove_26 K q_1 p1 p2 r n M_12 (v4_26 + 1))
def F_X2_remove (M : Mem) (r : Nat) (p1 : Int32) (p2 : Int32) : Option (Mem) :=
  bi (F_X2_placeOf M r p1 p2) fun q_1 => (if q_1 = (-1) then some M else gd (inb p1 (ln (r + 1))) <| gd (inb p1 (ln (r + 1))) <| bm (up2 M (r + 1) p1.toNatClampNeg ((M (r + 1) p1.toNatClampNeg) - 1)) fun M_6 => L_X2_remove_26 (fun M_7 v4_26 => some M_7) q_1 p1 p2 r 4000 M_6 q_1)
set_option maxHeartbeats 4000000 in
set_option maxRecDepth 100000 in
theorem k_X2_remove (l : Launch) (dC : Nat → ClassId) (dI : Nat → Nat → Nat) (cI c9 : ClassId) (ad : Nat → Nat) (hI : Inj 100 ad) (M : Mem) (r : Nat) (hrk : rok r) (p1 : Int32) (p2 : Int32) (q : Mem) (h : F_X2_remove M r p1 p2 = some q) : Met l yX2_remove wsX2_remove ({ frames := 2, cells := 0, slots := 0, locals := 45 }) (gP dC dI cI c9 ad M [.ref (ad r), .int p1, .int p2]) (va_Qv (fun M' => M' = q) (fun M' t => va_P (dC, dI) vwCl (cW cI c9 ad M') t.heap) (Ac 100 ad)) 0 0 (Ac 100 ad) := by
  refine Met.ofW (cc := cX2_remove) (maxL := 5) (ret := none) (by decide) rfl ?_
  intro p e s m args below meth c s₁ B hml hv
  obtain ⟨rfl, hP, hKK, hKw⟩ := hv
  have hx := B.exec
  have hb := B.bytes
  have hr := B.returns
  have hts := atoms_spec (ws := wsX2_remove) B.pre
  have hown : s.vm.findClass RX2 = some m.cls := findClass_of_methodNamed B.named
  have hlocks := B.notSynchronized
  have hD := cwl_D hI (enc cI c9 ad M)
  have hS : va_S (Ac 100 ad) s.heap s.heap [] := va_S.rf
  have hl := lv_entry ([.ref (ad r), .int p1, .int p2]) (n := 5) (Nat.le_of_ble_eq_true rfl)
  rw [lg_entry_eq]
  generalize (lg_sl ([.ref (ad r), .int p1, .int p2]) ++ List.replicate (5 - (lg_sl ([.ref (ad r), .int p1, .int p2])).length) Slot.unset).toArray = ls at hl ⊢
  have hl : lv_has ls 5 [(0, .ref (ad r)), (1, .int p1), (2, .int p2)] := hl
  unfold F_X2_remove at h
  refine lv_aload_n hx hb dX2_remove_0 rfl (lv_at hl 0 rfl) ?_
  refine lv_iload_n hx hb dX2_remove_1 rfl (lv_at hl 1 rfl) ?_
  refine lv_iload_n hx hb dX2_remove_2 rfl (lv_at hl 2 rfl) ?_
  obtain ⟨q_1, hq_1, h⟩ := bi_some h
  refine vp_callSi (va_Run.run (va_runV (As := [.int p1, .int p2]) (rest := []) ⟨hx, hb, hml, hown, hts⟩ (k_X2_placeOf l dC dI cI c9 ad hI M r hrk p1 p2 q_1 hq_1) (cwV 2 hts gX2_remove_X2_placeOf rfl rfl rfl (by decide +kernel) ⟨Nat.le_of_ble_eq_true rfl, Nat.le_of_ble_eq_true rfl⟩) (gP_preV hKK hKw hP (va_recv hKw hP (ci := 2) (q0 := r) rfl (cw_rows hrk.lt hrk.k0))) rfl rfl hl.1 rfl (lv_room (Nat.le_of_ble_eq_true rfl)) dX2_remove_3 ⟨Nat.zero_le _, Nat.zero_le _⟩)) (fun r_2 hr_2 => ?_)
  replace hr_2 := hr_2.symm
  subst hr_2
  refine lv_istore_n (lv' := [(3, .int q_1), (0, .ref (ad r)), (1, .int p1), (2, .int p2)]) hx hb dX2_remove_6 rfl hl (by decide) rfl (fun ls hl => ?_)
  refine lv_iload_n hx hb dX2_remove_7 rfl (lv_at hl 0 rfl) ?_
  refine lv_iconst (v := (-1)) hx hb dX2_remove_8 (by decide) ?_
  refine lv_icmp_ne (tgt := 13) hx hb dX2_remove_9 (by decide) (fun c_3 => ?_) (fun c_3 => ?_)
  · rw [if_neg c_3] at h
    refine lv_aload_n hx hb dX2_remove_13 rfl (lv_at hl 1 rfl) ?_
    refine va_get (D := (dC, dI)) (ci := 2) (v := .ref (ad (r + 1))) (C := RX2) (T := TX2) (N := 3) hx hb hts jX2_remove_X2 hown hKw hP r (cw_rows hrk.lt hrk.k0) rfl 1 (by decide) (hts (.fieldLink RX2 15 "LendThreads$Rows" "counts" "[I") (by decide +kernel)) (fun _ h9 => h9) rfl dX2_remove_14 ?_
    refine lv_iload_n hx hb dX2_remove_17 rfl (lv_at hl 2 rfl) ?_
    refine lv_dup2_11 hx hb dX2_remove_18 rfl rfl ?_
    obtain ⟨g_4, h⟩ := gd_some h
    refine va_iald hx hb hKw hP (r + 1) 0 (cw_arr hrk.lt1 hrk.k1) rfl (inb_in g_4) dX2_remove_19 ?_
    refine lv_iconst (v := 1) hx hb dX2_remove_20 (by decide) ?_
    refine lv_isub hx hb dX2_remove_21 ?_
    obtain ⟨g_5, h⟩ := gd_some h
    refine va_iast hx hb hKw hP hD hS (r + 1) 0 (cw_arr hrk.lt1 hrk.k1) rfl (inb_in g_5) dX2_remove_22 (fun H locs hP _ hS => ?_)
    have hP : va_P (dC, dI) vwCl (cW cI c9 ad (up2 M (r + 1) p1.toNatClampNeg ((M (r + 1) p1.toNatClampNeg) - 1))) H := by show va_P (dC, dI) vwCl (cwl 100 ad (enc cI c9 ad (up2 M (r + 1) p1.toNatClampNeg ((M (r + 1) p1.toNatClampNeg) - 1)))) H; unfold up2; rw [← en_arr hrk.k1, ← cwl_set hrk.lt1]; exact hP
    have hD := cwl_D hI (enc cI c9 ad (up2 M (r + 1) p1.toNatClampNeg ((M (r + 1) p1.toNatClampNeg) - 1)))
    generalize up2 M (r + 1) p1.toNatClampNeg ((M (r + 1) p1.toNatClampNeg) - 1) = M_6 at hP hD h
    replace h := bm_e h
    try dsimp only at h
    refine lv_iload_n hx hb dX2_remove_23 rfl (lv_at hl 0 rfl) ?_
    refine lv_istore (lv' := [(4, .int q_1), (3, .int q_1), (0, .ref (ad r)), (1, .int p1), (2, .int p2)]) hx hb dX2_remove_24 hl (by decide) rfl (fun ls hl => ?_)
    have key26 : ∀ (K : Mem → Int32 → Option (Mem)), (∀ (M_7 : Mem) (v4_26 : Int32) (H : Heap) (locs : List Loc) (ls : Array Slot), K M_7 v4_26 = some q → va_P (dC, dI) vwCl (cW cI c9 ad M_7) H → va_S (Ac 100 ad) s.heap H locs → lv_has ls 5 [(4, .int v4_26), (3, .int q_1), (0, .ref (ad r)), (1, .int p1), (2, .int p2)] → W p l e (headSpec wsX2_remove ({ frames := 2, cells := 0, slots := 0, locals := 45 })).room s m ([.ref (ad r), .int p1, .int p2] : List Value).toArray below meth c H locs 0 0 (MQ below (va_Qv (fun M' => M' = q) (fun M' t => va_P (dC, dI) vwCl (cW cI c9 ad M') t.heap) (Ac 100 ad)) ([.ref (ad r), .int p1, .int p2] : List Value).toArray s 0 0 (Ac 100 ad)) (F0 m 73 ls [])) → ∀ (n : Nat), ∀ (M_7 : Mem) (v4_26 : Int32) (H : Heap) (locs : List Loc) (ls : Array Slot), L_X2_remove_26 K q_1 p1 p2 r n M_7 v4_26 = some q → va_P (dC, dI) vwCl (cW cI c9 ad M_7) H → va_S (Ac 100 ad) s.heap H locs → lv_has ls 5 [(4, .int v4_26), (3, .int q_1), (0, .ref (ad r)), (1, .int p1), (2, .int p2)] → W p l e (headSpec wsX2_remove ({ frames := 2, cells := 0, slots := 0, locals := 45 })).room s m ([.ref (ad r), .int p1, .int p2] : List Value).toArray below meth c H locs 0 0 (MQ below (va_Qv (fun M' => M' = q) (fun M' t => va_P (dC, dI) vwCl (cW cI c9 ad M') t.heap) (Ac 100 ad)) ([.ref (ad r), .int p1, .int p2] : List Value).toArray s 0 0 (Ac 100 ad)) (F0 m 26 ls []) := by
      intro K hk n
      induction n with
      | zero =>
        intro M_7 v4_26 H locs ls h
        exact absurd h (by simp [L_X2_remove_26])
      | succ n ih =>
        intro M_7 v4_26 H locs ls h hP hS hl
        have hD := cwl_D hI (enc cI c9 ad M_7)
        simp only [L_X2_remove_26] at h
        refine lv_iload hx hb dX2_remove_26 (lv_at hl 0 rfl) ?_
        refine lv_aload_n hx hb dX2_remove_28 rfl (lv_at hl 2 rfl) ?_
        refine va_get (D := (dC, dI)) (ci := 2) (v := .ref (ad (r + 1))) (C := RX2) (T := TX2) (N := 3) hx hb hts jX2_remove_X2 hown hKw hP r (cw_rows hrk.lt hrk.k0) rfl 1 (by decide) (hts (.fieldLink RX2 15 "LendThreads$Rows" "counts" "[I") (by decide +kernel)) (fun _ h9 => h9) rfl dX2_remove_29 ?_
        refine lv_iload_n hx hb dX2_remove_32 rfl (lv_at hl 3 rfl) ?_
        obtain ⟨g_8, h⟩ := gd_some h
        refine va_iald hx hb hKw hP (r + 1) 0 (cw_arr hrk.lt1 hrk.k1) rfl (inb_in g_8) dX2_remove_33 ?_
        refine lv_icmp_ge (tgt := 73) hx hb dX2_remove_34 (by decide) (fun c_9 => ?_) (fun c_9 => ?_)
        · rw [if_pos c_9] at h
          exact hk M_7 v4_26 _ _ _ h hP hS (lv_sub hl [0, 1, 2, 3, 4] rfl)
        · rw [if_neg c_9] at h
          refine lv_aload_n hx hb dX2_remove_37 rfl (lv_at hl 2 rfl) ?_
          refine va_get (D := (dC, dI)) (ci := 2) (v := .ref (ad (r + 2))) (C := RX2) (T := TX2) (N := 3) hx hb hts jX2_remove_X2 hown hKw hP r (cw_rows hrk.lt hrk.k0) rfl 2 (by decide) (hts (.fieldLink RX2 19 "LendThreads$Rows" "items" "[I") (by decide +kernel)) (fun _ h9 => h9) rfl dX2_remove_38 ?_
          refine lv_iload_n hx hb dX2_remove_41 rfl (lv_at hl 3 rfl) ?_
          refine lv_aload_n hx hb dX2_remove_42 rfl (lv_at hl 2 rfl) ?_
          refine va_get (D := (dC, dI)) (ci := 2) (v := .int (M_7 r 0)) (C := RX2) (T := TX2) (N := 3) hx hb hts jX2_remove_X2 hown hKw hP r (cw_rows hrk.lt hrk.k0) rfl 0 (by decide) (hts (.fieldLink RX2 9 "LendThreads$Rows" "room" "I") (by decide +kernel)) (fun _ h9 => h9) rfl dX2_remove_43 ?_
          refine lv_imul hx hb dX2_remove_46 ?_
          refine lv_iload hx hb dX2_remove_47 (lv_at hl 0 rfl) ?_
          refine lv_iadd hx hb dX2_remove_49 ?_
          refine lv_aload_n hx hb dX2_remove_50 rfl (lv_at hl 2 rfl) ?_
          refine va_get (D := (dC, dI)) (ci := 2) (v := .ref (ad (r + 2))) (C := RX2) (T := TX2) (N := 3) hx hb hts jX2_remove_X2 hown hKw hP r (cw_rows hrk.lt hrk.k0) rfl 2 (by decide) (hts (.fieldLink RX2 19 "LendThreads$Rows" "items" "[I") (by decide +kernel)) (fun _ h9 => h9) rfl dX2_remove_51 ?_
          refine lv_iload_n hx hb dX2_remove_54 rfl (lv_at hl 3 rfl) ?_
          refine lv_aload_n hx hb dX2_remove_55 rfl (lv_at hl 2 rfl) ?_
          refine va_get (D := (dC, dI)) (ci := 2) (v := .int (M_7 r 0)) (C := RX2) (T := TX2) (N := 3) hx hb hts jX2_remove_X2 hown hKw hP r (cw_rows hrk.lt hrk.k0) rfl 0 (by decide) (hts (.fieldLink RX2 9 "LendThreads$Rows" "room" "I") (by decide +kernel)) (fun _ h9 => h9) rfl dX2_remove_56 ?_
          refine lv_imul hx hb dX2_remove_59 ?_
          refine lv_iload hx hb dX2_remove_60 (lv_at hl 0 rfl) ?_
          refine lv_iadd hx hb dX2_remove_62 ?_
          refine lv_iconst (v := 1) hx hb dX2_remove_63 (by decide) ?_
          refine lv_iadd hx hb dX2_remove_64 ?_
          obtain ⟨g_10, h⟩ := gd_some h
          refine va_iald hx hb hKw hP (r + 2) 0 (cw_arr hrk.lt2 hrk.k2) rfl (inb_in g_10) dX2_remove_65 ?_
          obtain ⟨g_11, h⟩ := gd_some h
          refine va_iast hx hb hKw hP hD hS (r + 2) 0 (cw_arr hrk.lt2 hrk.k2) rfl (inb_in g_11) dX2_remove_66 (fun H locs hP _ hS => ?_)
          have hP : va_P (dC, dI) vwCl (cW cI c9 ad (up2 M_7 (r + 2) (((p1 * (M_7 r 0)) + v4_26).toNatClampNeg) (M_7 (r + 2) (((p1 * (M_7 r 0)) + v4_26) + 1).toNatClampNeg))) H := by show va_P (dC, dI) vwCl (cwl 100 ad (enc cI c9 ad (up2 M_7 (r + 2) (((p1 * (M_7 r 0)) + v4_26).toNatClampNeg) (M_7 (r + 2) (((p1 * (M_7 r 0)) + v4_26) + 1).toNatClampNeg)))) H; unfold up2; rw [← en_arr hrk.k2, ← cwl_set hrk.lt2]; exact hP
          have hD := cwl_D hI (enc cI c9 ad (up2 M_7 (r + 2) (((p1 * (M_7 r 0)) + v4_26).toNatClampNeg) (M_7 (r + 2) (((p1 * (M_7 r 0)) + v4_26) + 1).toNatClampNeg)))
          generalize up2 M_7 (r + 2) (((p1 * (M_7 r 0)) + v4_26).toNatClampNeg) (M_7 (r + 2) (((p1 * (M_7 r 0)) + v4_26) + 1).toNatClampNeg) = M_12 at hP hD h
          replace h := bm_e h
          try dsimp only at h
          refine lv_iinc (v := v4_26 + 1) (lv' := [(4, .int (v4_26 + 1)), (3, .int q_1), (0, .ref (ad r)), (1, .int p1), (2, .int p2)]) hx hb dX2_remove_67 hl (k := 0) rfl rfl (by decide) rfl (fun ls hl => ?_)
          refine lv_goto (tgt := 26) hx hb dX2_remove_70 (by decide) ?_
          exact ih M_12 (v4_26 + 1) _ _ _ h hP hS (lv_sub hl [0, 1, 2, 3, 4] rfl)
    refine key26 _ (fun M_7 v4_26 H locs ls h hP hS hl => ?_) 4000 M_6 q_1 _ _ _ h hP hS (lv_sub hl [0, 1, 2, 3, 4] rfl)
    have hD := cwl_D hI (enc cI c9 ad M_7)
    try dsimp only at h
    replace h := Option.some.inj h
    subst h
    exact W.vret hx hb hr (fun t ht hW => ⟨⟨_, rfl, rfl, (show va_P (dC, dI) vwCl (cW cI c9 ad M_7) t.heap by rw [ht]; exact hP)⟩, hS.F ht⟩) hS.2.2 dX2_remove_73
  · rw [if_pos c_3] at h
    replace h := Option.some.inj h
    subst h
    exact W.vret hx hb hr (fun t ht hW => ⟨⟨_, rfl, rfl, (show va_P (dC, dI) vwCl (cW cI c9 ad M) t.heap by rw [ht]; exact hP)⟩, hS.F ht⟩) hS.2.2 dX2_remove_12
