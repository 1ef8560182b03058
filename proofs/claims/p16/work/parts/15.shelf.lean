theorem jX3_isFreeFor_X3 : ∀ w ∈ u_ws RX3 TX3 4, w ∈ wsX3_isFreeFor := by decide +kernel
def F_X3_isFreeFor (M : Mem) (p1 : Int32) (p2 : Int32) : Option (Int32) :=
  bi (F_X2_item M 6 p1 0) fun q_1 => gd (inb p1 (ln 5)) <| (if (M 5 p1.toNatClampNeg) = (-1) then (if q_1 = (-1) then some 1 else (if q_1 = p2 then some 1 else some 0)) else some 0)
set_option maxHeartbeats 4000000 in
set_option maxRecDepth 100000 in
theorem k_X3_isFreeFor (l : Launch) (dC : Nat → ClassId) (dI : Nat → Nat → Nat) (cI c9 : ClassId) (ad : Nat → Nat) (hI : Inj 100 ad) (M : Mem) (p1 : Int32) (p2 : Int32) (q : Int32) (h : F_X3_isFreeFor M p1 p2 = some q) : Met l yX3_isFreeFor wsX3_isFreeFor ({ frames := 2, cells := 0, slots := 0, locals := 43 }) (gP dC dI cI c9 ad M [.ref (ad 2), .int p1, .int p2]) (vp_Si (fun x => x = q)) 0 0 (fun _ => False) := by
  refine Met.ofW (cc := cX3_isFreeFor) (maxL := 4) (ret := (some .boolean)) (by decide) rfl ?_
  intro p e s m args below meth c s₁ B hml hv
  obtain ⟨rfl, hP, hKK, hKw⟩ := hv
  have hx := B.exec
  have hb := B.bytes
  have hr := B.returns
  have hts := atoms_spec (ws := wsX3_isFreeFor) B.pre
  have hown : s.vm.findClass RX3 = some m.cls := findClass_of_methodNamed B.named
  have hlocks := B.notSynchronized
  have hl := lv_entry ([.ref (ad 2), .int p1, .int p2]) (n := 4) (Nat.le_of_ble_eq_true rfl)
  rw [lg_entry_eq]
  generalize (lg_sl ([.ref (ad 2), .int p1, .int p2]) ++ List.replicate (4 - (lg_sl ([.ref (ad 2), .int p1, .int p2])).length) Slot.unset).toArray = ls at hl ⊢
  have hl : lv_has ls 4 [(0, .ref (ad 2)), (1, .int p1), (2, .int p2)] := hl
  unfold F_X3_isFreeFor at h
  refine lv_aload_n hx hb dX3_isFreeFor_0 rfl (lv_at hl 0 rfl) ?_
  refine va_get (D := (dC, dI)) (ci := 3) (v := .ref (ad 6)) (C := RX3) (T := TX3) (N := 4) hx hb hts jX3_isFreeFor_X3 hown hKw hP 2 cw_shelf rfl 3 (by decide) (hts (.fieldLink RX3 26 "LendThreads$Shelf" "lines" "LLendThreads$Rows;") (by decide +kernel)) (fun _ h9 => h9) rfl dX3_isFreeFor_1 ?_
  refine lv_iload_n hx hb dX3_isFreeFor_4 rfl (lv_at hl 1 rfl) ?_
  refine lv_iconst (v := 0) hx hb dX3_isFreeFor_5 (by decide) ?_
  obtain ⟨q_1, hq_1, h⟩ := bi_some h
  refine vp_callSi (va_Run.run (va_runV (As := [.int p1, .int 0]) (rest := []) ⟨hx, hb, hml, hown, hts⟩ (k_X2_item l dC dI cI c9 ad hI M 6 rok_6 p1 0 q_1 hq_1) (cwV 2 hts gX3_isFreeFor_X2_item rfl rfl rfl (by decide +kernel) ⟨Nat.le_of_ble_eq_true rfl, Nat.le_of_ble_eq_true rfl⟩) (gP_preV hKK hKw hP (va_recv hKw hP (ci := 2) (q0 := 6) rfl (cw_rows rok_6.lt rok_6.k0))) rfl rfl hl.1 rfl (lv_room (Nat.le_of_ble_eq_true rfl)) dX3_isFreeFor_6 ⟨Nat.zero_le _, Nat.zero_le _⟩)) (fun r_2 hr_2 => ?_)
  replace hr_2 := hr_2.symm
  subst hr_2
  refine lv_istore_n (lv' := [(3, .int q_1), (0, .ref (ad 2)), (1, .int p1), (2, .int p2)]) hx hb dX3_isFreeFor_9 rfl hl (by decide) rfl (fun ls hl => ?_)
  refine lv_aload_n hx hb dX3_isFreeFor_10 rfl (lv_at hl 1 rfl) ?_
  refine va_get (D := (dC, dI)) (ci := 3) (v := .ref (ad 5)) (C := RX3) (T := TX3) (N := 4) hx hb hts jX3_isFreeFor_X3 hown hKw hP 2 cw_shelf rfl 2 (by decide) (hts (.fieldLink RX3 18 "LendThreads$Shelf" "holders" "[I") (by decide +kernel)) (fun _ h9 => h9) rfl dX3_isFreeFor_11 ?_
  refine lv_iload_n hx hb dX3_isFreeFor_14 rfl (lv_at hl 2 rfl) ?_
  obtain ⟨g_3, h⟩ := gd_some h
  refine va_iald hx hb hKw hP 5 0 (cw_arr (k := 5) (by decide) (by decide)) rfl (inb_in g_3) dX3_isFreeFor_15 ?_
  refine lv_iconst (v := (-1)) hx hb dX3_isFreeFor_16 (by decide) ?_
  refine lv_icmp_ne (tgt := 34) hx hb dX3_isFreeFor_17 (by decide) (fun c_4 => ?_) (fun c_4 => ?_)
  · rw [if_neg c_4] at h
    refine lv_iconst (v := 0) hx hb dX3_isFreeFor_34 (by decide) ?_
    replace h := Option.some.inj h
    subst h
    exact W.zret (v := 0) (ty := .boolean) hx hb hr (by rfl) (fun t ht hW => ⟨_, rfl, rfl, ht⟩) (fun _ h => by cases h) dX3_isFreeFor_35
  · rw [if_pos c_4] at h
    refine lv_iload_n hx hb dX3_isFreeFor_20 rfl (lv_at hl 0 rfl) ?_
    refine lv_iconst (v := (-1)) hx hb dX3_isFreeFor_21 (by decide) ?_
    refine lv_icmp_eq (tgt := 30) hx hb dX3_isFreeFor_22 (by decide) (fun c_5 => ?_) (fun c_5 => ?_)
    · rw [if_pos c_5] at h
      refine lv_iconst (v := 1) hx hb dX3_isFreeFor_30 (by decide) ?_
      refine lv_goto (tgt := 35) hx hb dX3_isFreeFor_31 (by decide) ?_
      replace h := Option.some.inj h
      subst h
      exact W.zret (v := 1) (ty := .boolean) hx hb hr (by rfl) (fun t ht hW => ⟨_, rfl, rfl, ht⟩) (fun _ h => by cases h) dX3_isFreeFor_35
    · rw [if_neg c_5] at h
      refine lv_iload_n hx hb dX3_isFreeFor_25 rfl (lv_at hl 0 rfl) ?_
      refine lv_iload_n hx hb dX3_isFreeFor_26 rfl (lv_at hl 3 rfl) ?_
      refine lv_icmp_ne (tgt := 34) hx hb dX3_isFreeFor_27 (by decide) (fun c_6 => ?_) (fun c_6 => ?_)
      · rw [if_neg c_6] at h
        refine lv_iconst (v := 0) hx hb dX3_isFreeFor_34 (by decide) ?_
        replace h := Option.some.inj h
        subst h
        exact W.zret (v := 0) (ty := .boolean) hx hb hr (by rfl) (fun t ht hW => ⟨_, rfl, rfl, ht⟩) (fun _ h => by cases h) dX3_isFreeFor_35
      · rw [if_pos c_6] at h
        refine lv_iconst (v := 1) hx hb dX3_isFreeFor_30 (by decide) ?_
        refine lv_goto (tgt := 35) hx hb dX3_isFreeFor_31 (by decide) ?_
        replace h := Option.some.inj h
        subst h
        exact W.zret (v := 1) (ty := .boolean) hx hb hr (by rfl) (fun t ht hW => ⟨_, rfl, rfl, ht⟩) (fun _ h => by cases h) dX3_isFreeFor_35
theorem jX3_take_X3 : ∀ w ∈ u_ws RX3 TX3 4, w ∈ wsX3_take := by decide +kernel
def F_X3_take (M : Mem) (p1 : Int32) (p2 : Int32) : Option (Mem) :=
  bi (F_X2_remove M 6 p1 p2) fun q_1 => gd (inb p1 (ln 5)) <| bm (up2 q_1 5 p1.toNatClampNeg p2) fun M_5 => gd (inb p1 (ln 3)) <| gd (inb p1 (ln 4)) <| bm (up2 M_5 4 p1.toNatClampNeg (M_5 3 p1.toNatClampNeg)) fun M_8 => some M_8
set_option maxHeartbeats 4000000 in
set_option maxRecDepth 100000 in
theorem k_X3_take (l : Launch) (dC : Nat → ClassId) (dI : Nat → Nat → Nat) (cI c9 : ClassId) (ad : Nat → Nat) (hI : Inj 100 ad) (M : Mem) (p1 : Int32) (p2 : Int32) (q : Mem) (h : F_X3_take M p1 p2 = some q) : Met l yX3_take wsX3_take ({ frames := 3, cells := 0, slots := 0, locals := 69 }) (gP dC dI cI c9 ad M [.ref (ad 2), .int p1, .int p2]) (va_Qv (fun M' => M' = q) (fun M' t => va_P (dC, dI) vwCl (cW cI c9 ad M') t.heap) (Ac 100 ad)) 0 0 (Ac 100 ad) := by
  refine Met.ofW (cc := cX3_take) (maxL := 3) (ret := none) (by decide) rfl ?_
  intro p e s m args below meth c s₁ B hml hv
  obtain ⟨rfl, hP, hKK, hKw⟩ := hv
  have hx := B.exec
  have hb := B.bytes
  have hr := B.returns
  have hts := atoms_spec (ws := wsX3_take) B.pre
  have hown : s.vm.findClass RX3 = some m.cls := findClass_of_methodNamed B.named
  have hlocks := B.notSynchronized
  have hD := cwl_D hI (enc cI c9 ad M)
  have hS : va_S (Ac 100 ad) s.heap s.heap [] := va_S.rf
  have hl := lv_entry ([.ref (ad 2), .int p1, .int p2]) (n := 3) (Nat.le_of_ble_eq_true rfl)
  rw [lg_entry_eq]
  generalize (lg_sl ([.ref (ad 2), .int p1, .int p2]) ++ List.replicate (3 - (lg_sl ([.ref (ad 2), .int p1, .int p2])).length) Slot.unset).toArray = ls at hl ⊢
  have hl : lv_has ls 3 [(0, .ref (ad 2)), (1, .int p1), (2, .int p2)] := hl
  unfold F_X3_take at h
  refine lv_aload_n hx hb dX3_take_0 rfl (lv_at hl 0 rfl) ?_
  refine va_get (D := (dC, dI)) (ci := 3) (v := .ref (ad 6)) (C := RX3) (T := TX3) (N := 4) hx hb hts jX3_take_X3 hown hKw hP 2 cw_shelf rfl 3 (by decide) (hts (.fieldLink RX3 26 "LendThreads$Shelf" "lines" "LLendThreads$Rows;") (by decide +kernel)) (fun _ h9 => h9) rfl dX3_take_1 ?_
  refine lv_iload_n hx hb dX3_take_4 rfl (lv_at hl 1 rfl) ?_
  refine lv_iload_n hx hb dX3_take_5 rfl (lv_at hl 2 rfl) ?_
  obtain ⟨q_1, hq_1, h⟩ := bi_some h
  refine va_callv (va_runV (As := [.int p1, .int p2]) (rest := []) ⟨hx, hb, hml, hown, hts⟩ (k_X2_remove l dC dI cI c9 ad hI M 6 rok_6 p1 p2 q_1 hq_1) (cwV 2 hts gX3_take_X2_remove rfl rfl rfl (by decide +kernel) ⟨Nat.le_of_ble_eq_true rfl, Nat.le_of_ble_eq_true rfl⟩) (gP_preV hKK hKw hP (va_recv hKw hP (ci := 2) (q0 := 6) rfl (cw_rows rok_6.lt rok_6.k0))) rfl rfl hl.1 rfl (lv_room (Nat.le_of_ble_eq_true rfl)) dX3_take_6 ⟨Nat.zero_le _, Nat.zero_le _⟩) hS (fun q _ h => h) (fun q h => h) (fun M_3 t H locs ht hvm hw hP hz1 hk1 hS => ?_)
  replace hw := hw.symm
  subst hw
  rw [ht] at hP
  have hD := cwl_D hI (enc cI c9 ad q_1)
  refine lv_aload_n hx hb dX3_take_9 rfl (lv_at hl 0 rfl) ?_
  refine va_get (D := (dC, dI)) (ci := 3) (v := .ref (ad 5)) (C := RX3) (T := TX3) (N := 4) hx hb hts jX3_take_X3 hown hKw hP 2 cw_shelf rfl 2 (by decide) (hts (.fieldLink RX3 18 "LendThreads$Shelf" "holders" "[I") (by decide +kernel)) (fun _ h9 => h9) rfl dX3_take_10 ?_
  refine lv_iload_n hx hb dX3_take_13 rfl (lv_at hl 1 rfl) ?_
  refine lv_iload_n hx hb dX3_take_14 rfl (lv_at hl 2 rfl) ?_
  obtain ⟨g_4, h⟩ := gd_some h
  refine va_iast hx hb hKw hP hD hS 5 0 (cw_arr (k := 5) (by decide) (by decide)) rfl (inb_in g_4) dX3_take_15 (fun H locs hP _ hS => ?_)
  have hP : va_P (dC, dI) vwCl (cW cI c9 ad (up2 q_1 5 p1.toNatClampNeg p2)) H := by show va_P (dC, dI) vwCl (cwl 100 ad (enc cI c9 ad (up2 q_1 5 p1.toNatClampNeg p2))) H; unfold up2; rw [← en_arr (k := 5) (by decide), ← cwl_set (by decide)]; exact hP
  have hD := cwl_D hI (enc cI c9 ad (up2 q_1 5 p1.toNatClampNeg p2))
  generalize up2 q_1 5 p1.toNatClampNeg p2 = M_5 at hP hD h
  replace h := bm_e h
  try dsimp only at h
  refine lv_aload_n hx hb dX3_take_16 rfl (lv_at hl 0 rfl) ?_
  refine va_get (D := (dC, dI)) (ci := 3) (v := .ref (ad 4)) (C := RX3) (T := TX3) (N := 4) hx hb hts jX3_take_X3 hown hKw hP 2 cw_shelf rfl 1 (by decide) (hts (.fieldLink RX3 15 "LendThreads$Shelf" "valuesWhenTaken" "[I") (by decide +kernel)) (fun _ h9 => h9) rfl dX3_take_17 ?_
  refine lv_iload_n hx hb dX3_take_20 rfl (lv_at hl 1 rfl) ?_
  refine lv_aload_n hx hb dX3_take_21 rfl (lv_at hl 0 rfl) ?_
  refine va_get (D := (dC, dI)) (ci := 3) (v := .ref (ad 3)) (C := RX3) (T := TX3) (N := 4) hx hb hts jX3_take_X3 hown hKw hP 2 cw_shelf rfl 0 (by decide) (hts (.fieldLink RX3 9 "LendThreads$Shelf" "values" "[I") (by decide +kernel)) (fun _ h9 => h9) rfl dX3_take_22 ?_
  refine lv_iload_n hx hb dX3_take_25 rfl (lv_at hl 1 rfl) ?_
  obtain ⟨g_6, h⟩ := gd_some h
  refine va_iald hx hb hKw hP 3 0 (cw_arr (k := 3) (by decide) (by decide)) rfl (inb_in g_6) dX3_take_26 ?_
  obtain ⟨g_7, h⟩ := gd_some h
  refine va_iast hx hb hKw hP hD hS 4 0 (cw_arr (k := 4) (by decide) (by decide)) rfl (inb_in g_7) dX3_take_27 (fun H locs hP _ hS => ?_)
  have hP : va_P (dC, dI) vwCl (cW cI c9 ad (up2 M_5 4 p1.toNatClampNeg (M_5 3 p1.toNatClampNeg))) H := by show va_P (dC, dI) vwCl (cwl 100 ad (enc cI c9 ad (up2 M_5 4 p1.toNatClampNeg (M_5 3 p1.toNatClampNeg)))) H; unfold up2; rw [← en_arr (k := 4) (by decide), ← cwl_set (by decide)]; exact hP
  have hD := cwl_D hI (enc cI c9 ad (up2 M_5 4 p1.toNatClampNeg (M_5 3 p1.toNatClampNeg)))
  generalize up2 M_5 4 p1.toNatClampNeg (M_5 3 p1.toNatClampNeg) = M_8 at hP hD h
  replace h := bm_e h
  try dsimp only at h
  replace h := Option.some.inj h
  subst h
  exact W.vret hx hb hr (fun t ht hW => ⟨⟨_, rfl, rfl, (show va_P (dC, dI) vwCl (cW cI c9 ad M_8) t.heap by rw [ht]; exact hP)⟩, hS.F ht⟩) hS.2.2 dX3_take_28
theorem jX3_standInLine_X3 : ∀ w ∈ u_ws RX3 TX3 4, w ∈ wsX3_standInLine := by decide +kernel
def F_X3_standInLine (M : Mem) (p1 : Int32) (p2 : Int32) : Option (Mem) :=
  bi (F_X2_placeOf M 6 p1 p2) fun q_1 => (if q_1 = (-1) then bi (F_X2_add M 6 p1 p2) fun q_4 => some q_4.2 else some M)
set_option maxHeartbeats 4000000 in
set_option maxRecDepth 100000 in
theorem k_X3_standInLine (l : Launch) (dC : Nat → ClassId) (dI : Nat → Nat → Nat) (cI c9 : ClassId) (ad : Nat → Nat) (hI : Inj 100 ad) (M : Mem) (p1 : Int32) (p2 : Int32) (q : Mem) (h : F_X3_standInLine M p1 p2 = some q) : Met l yX3_standInLine wsX3_standInLine ({ frames := 2, cells := 0, slots := 0, locals := 45 }) (gP dC dI cI c9 ad M [.ref (ad 2), .int p1, .int p2]) (va_Qv (fun M' => M' = q) (fun M' t => va_P (dC, dI) vwCl (cW cI c9 ad M') t.heap) (Ac 100 ad)) 0 0 (Ac 100 ad) := by
  refine Met.ofW (cc := cX3_standInLine) (maxL := 3) (ret := none) (by decide) rfl ?_
  intro p e s m args below meth c s₁ B hml hv
  obtain ⟨rfl, hP, hKK, hKw⟩ := hv
  have hx := B.exec
  have hb := B.bytes
  have hr := B.returns
  have hts := atoms_spec (ws := wsX3_standInLine) B.pre
  have hown : s.vm.findClass RX3 = some m.cls := findClass_of_methodNamed B.named
  have hlocks := B.notSynchronized
  have hD := cwl_D hI (enc cI c9 ad M)
  have hS : va_S (Ac 100 ad) s.heap s.heap [] := va_S.rf
  have hl := lv_entry ([.ref (ad 2), .int p1, .int p2]) (n := 3) (Nat.le_of_ble_eq_true rfl)
  rw [lg_entry_eq]
  generalize (lg_sl ([.ref (ad 2), .int p1, .int p2]) ++ List.replicate (3 - (lg_sl ([.ref (ad 2), .int p1, .int p2])).length) Slot.unset).toArray = ls at hl ⊢
  have hl : lv_has ls 3 [(0, .ref (ad 2)), (1, .int p1), (2, .int p2)] := hl
  unfold F_X3_standInLine at h
  refine lv_aload_n hx hb dX3_standInLine_0 rfl (lv_at hl 0 rfl) ?_
  refine va_get (D := (dC, dI)) (ci := 3) (v := .ref (ad 6)) (C := RX3) (T := TX3) (N := 4) hx hb hts jX3_standInLine_X3 hown hKw hP 2 cw_shelf rfl 3 (by decide) (hts (.fieldLink RX3 26 "LendThreads$Shelf" "lines" "LLendThreads$Rows;") (by decide +kernel)) (fun _ h9 => h9) rfl dX3_standInLine_1 ?_
  refine lv_iload_n hx hb dX3_standInLine_4 rfl (lv_at hl 1 rfl) ?_
  refine lv_iload_n hx hb dX3_standInLine_5 rfl (lv_at hl 2 rfl) ?_
  obtain ⟨q_1, hq_1, h⟩ := bi_some h
  refine vp_callSi (va_Run.run (va_runV (As := [.int p1, .int p2]) (rest := []) ⟨hx, hb, hml, hown, hts⟩ (k_X2_placeOf l dC dI cI c9 ad hI M 6 rok_6 p1 p2 q_1 hq_1) (cwV 2 hts gX3_standInLine_X2_placeOf rfl rfl rfl (by decide +kernel) ⟨Nat.le_of_ble_eq_true rfl, Nat.le_of_ble_eq_true rfl⟩) (gP_preV hKK hKw hP (va_recv hKw hP (ci := 2) (q0 := 6) rfl (cw_rows rok_6.lt rok_6.k0))) rfl rfl hl.1 rfl (lv_room (Nat.le_of_ble_eq_true rfl)) dX3_standInLine_6 ⟨Nat.zero_le _, Nat.zero_le _⟩)) (fun r_2 hr_2 => ?_)
  replace hr_2 := hr_2.symm
  subst hr_2
  refine lv_iconst (v := (-1)) hx hb dX3_standInLine_9 (by decide) ?_
  refine lv_icmp_ne (tgt := 23) hx hb dX3_standInLine_10 (by decide) (fun c_3 => ?_) (fun c_3 => ?_)
  · rw [if_neg c_3] at h
    replace h := Option.some.inj h
    subst h
    exact W.vret hx hb hr (fun t ht hW => ⟨⟨_, rfl, rfl, (show va_P (dC, dI) vwCl (cW cI c9 ad M) t.heap by rw [ht]; exact hP)⟩, hS.F ht⟩) hS.2.2 dX3_standInLine_23
  · rw [if_pos c_3] at h
    refine lv_aload_n hx hb dX3_standInLine_13 rfl (lv_at hl 0 rfl) ?_
    refine va_get (D := (dC, dI)) (ci := 3) (v := .ref (ad 6)) (C := RX3) (T := TX3) (N := 4) hx hb hts jX3_standInLine_X3 hown hKw hP 2 cw_shelf rfl 3 (by decide) (hts (.fieldLink RX3 26 "LendThreads$Shelf" "lines" "LLendThreads$Rows;") (by decide +kernel)) (fun _ h9 => h9) rfl dX3_standInLine_14 ?_
    refine lv_iload_n hx hb dX3_standInLine_17 rfl (lv_at hl 1 rfl) ?_
    refine lv_iload_n hx hb dX3_standInLine_18 rfl (lv_at hl 2 rfl) ?_
    obtain ⟨q_4, hq_4, h⟩ := bi_some h
    refine va_calli (va_runV (As := [.int p1, .int p2]) (rest := []) ⟨hx, hb, hml, hown, hts⟩ (k_X2_add l dC dI cI c9 ad hI M 6 rok_6 p1 p2 q_4 hq_4) (cwV 2 hts gX3_standInLine_X2_add rfl rfl rfl (by decide +kernel) ⟨Nat.le_of_ble_eq_true rfl, Nat.le_of_ble_eq_true rfl⟩) (gP_preV hKK hKw hP (va_recv hKw hP (ci := 2) (q0 := 6) rfl (cw_rows rok_6.lt rok_6.k0))) rfl rfl hl.1 rfl (lv_room (Nat.le_of_ble_eq_true rfl)) dX3_standInLine_19 ⟨Nat.zero_le _, Nat.zero_le _⟩) hS (fun q _ h => h) (fun q h => h) (fun r_5 M_6 t H locs ht hvm hw hP hz1 hk1 hS => ?_)
    obtain ⟨h1, h2⟩ := hw
    subst h1 h2
    rw [ht] at hP
    have hD := cwl_D hI (enc cI c9 ad q_4.2)
    refine lv_pop hx hb dX3_standInLine_22 rfl ?_
    replace h := Option.some.inj h
    subst h
    exact W.vret hx hb hr (fun t ht hW => ⟨⟨_, rfl, rfl, (show va_P (dC, dI) vwCl (cW cI c9 ad q_4.2) t.heap by rw [ht]; exact hP)⟩, hS.F ht⟩) hS.2.2 dX3_standInLine_23
theorem jX3_change_X3 : ∀ w ∈ u_ws RX3 TX3 4, w ∈ wsX3_change := by decide +kernel
def L_X3_change_2 (K : Mem → Int32 → Option (Mem)) (p1 : Int32) (p2 : Int32) : Nat → Mem → Int32 → Option (Mem)
  | 0, _, _ => none
  | n + 1, M_1, v3_2 => (if 10 ≤ v3_2 then K M_1 v3_2 else gd (inb v3_2 (ln 5)) <| (if (M_1 5 v3_2.toNatClampNeg) = p1 then gd (inb v3_2 (ln 3)) <| gd (inb v3_2 (ln 3)) <| bm (up2 M_1 3 v3_2.toNatClampNeg ((((M_1 3 v3_2.toNatClampNeg) * 3) + p1) + (10 * p2))) fun M_7 => L_X3_change_2 K p1 p2 n M_7 (v3_2 + 1) else L_X3_change_2 K p1 p2 n M_1 (v3_2 + 1)))
def F_X3_change (M : Mem) (p1 : Int32) (p2 : Int32) : Option (Mem) :=
  L_X3_change_2 (fun M_1 v3_2 => some M_1) p1 p2 4000 M 0
set_option maxHeartbeats 4000000 in
set_option maxRecDepth 100000 in
theorem k_X3_change (l : Launch) (dC : Nat → ClassId) (dI : Nat → Nat → Nat) (cI c9 : ClassId) (ad : Nat → Nat) (hI : Inj 100 ad) (M : Mem) (p1 : Int32) (p2 : Int32) (q : Mem) (h : F_X3_change M p1 p2 = some q) : Met l yX3_change wsX3_change ({ frames := 0, cells := 0, slots := 0, locals := 0 }) (gP dC dI cI c9 ad M [.ref (ad 2), .int p1, .int p2]) (va_Qv (fun M' => M' = q) (fun M' t => va_P (dC, dI) vwCl (cW cI c9 ad M') t.heap) (Ac 100 ad)) 0 0 (Ac 100 ad) := by
  refine Met.ofW (cc := cX3_change) (maxL := 4) (ret := none) (by decide) rfl ?_
  intro p e s m args below meth c s₁ B hml hv
  obtain ⟨rfl, hP, hKK, hKw⟩ := hv
  have hx := B.exec
  have hb := B.bytes
  have hr := B.returns
  have hts := atoms_spec (ws := wsX3_change) B.pre
  have hown : s.vm.findClass RX3 = some m.cls := findClass_of_methodNamed B.named
  have hlocks := B.notSynchronized
  have hD := cwl_D hI (enc cI c9 ad M)
  have hS : va_S (Ac 100 ad) s.heap s.heap [] := va_S.rf
  have hl := lv_entry ([.ref (ad 2), .int p1, .int p2]) (n := 4) (Nat.le_of_ble_eq_true rfl)
  rw [lg_entry_eq]
  generalize (lg_sl ([.ref (ad 2), .int p1, .int p2]) ++ List.replicate (4 - (lg_sl ([.ref (ad 2), .int p1, .int p2])).length) Slot.unset).toArray = ls at hl ⊢
  have hl : lv_has ls 4 [(0, .ref (ad 2)), (1, .int p1), (2, .int p2)] := hl
  unfold F_X3_change at h
  refine lv_iconst (v := 0) hx hb dX3_change_0 (by decide) ?_
  refine lv_istore_n (lv' := [(3, .int 0), (0, .ref (ad 2)), (1, .int p1), (2, .int p2)]) hx hb dX3_change_1 rfl hl (by decide) rfl (fun ls hl => ?_)
  have key2 : ∀ (K : Mem → Int32 → Option (Mem)), (∀ (M_1 : Mem) (v3_2 : Int32) (H : Heap) (locs : List Loc) (ls : Array Slot), K M_1 v3_2 = some q → va_P (dC, dI) vwCl (cW cI c9 ad M_1) H → va_S (Ac 100 ad) s.heap H locs → lv_has ls 4 [(3, .int v3_2), (0, .ref (ad 2)), (1, .int p1), (2, .int p2)] → W p l e (headSpec wsX3_change ({ frames := 0, cells := 0, slots := 0, locals := 0 })).room s m ([.ref (ad 2), .int p1, .int p2] : List Value).toArray below meth c H locs 0 0 (MQ below (va_Qv (fun M' => M' = q) (fun M' t => va_P (dC, dI) vwCl (cW cI c9 ad M') t.heap) (Ac 100 ad)) ([.ref (ad 2), .int p1, .int p2] : List Value).toArray s 0 0 (Ac 100 ad)) (F0 m 45 ls [])) → ∀ (n : Nat), ∀ (M_1 : Mem) (v3_2 : Int32) (H : Heap) (locs : List Loc) (ls : Array Slot), L_X3_change_2 K p1 p2 n M_1 v3_2 = some q → va_P (dC, dI) vwCl (cW cI c9 ad M_1) H → va_S (Ac 100 ad) s.heap H locs → lv_has ls 4 [(3, .int v3_2), (0, .ref (ad 2)), (1, .int p1), (2, .int p2)] → W p l e (headSpec wsX3_change ({ frames := 0, cells := 0, slots := 0, locals := 0 })).room s m ([.ref (ad 2), .int p1, .int p2] : List Value).toArray below meth c H locs 0 0 (MQ below (va_Qv (fun M' => M' = q) (fun M' t => va_P (dC, dI) vwCl (cW cI c9 ad M') t.heap) (Ac 100 ad)) ([.ref (ad 2), .int p1, .int p2] : List Value).toArray s 0 0 (Ac 100 ad)) (F0 m 2 ls []) := by
    intro K hk n
    induction n with
    | zero =>
      intro M_1 v3_2 H locs ls h
      exact absurd h (by simp [L_X3_change_2])
    | succ n ih =>
      intro M_1 v3_2 H locs ls h hP hS hl
      have hD := cwl_D hI (enc cI c9 ad M_1)
      simp only [L_X3_change_2] at h
      refine lv_iload_n hx hb dX3_change_2 rfl (lv_at hl 0 rfl) ?_
      refine lv_bipush (v := 10) hx hb dX3_change_3 (by decide) ?_
      refine lv_icmp_ge (tgt := 45) hx hb dX3_change_5 (by decide) (fun c_2 => ?_) (fun c_2 => ?_)
      · rw [if_pos c_2] at h
        exact hk M_1 v3_2 _ _ _ h hP hS (lv_sub hl [0, 1, 2, 3] rfl)
      · rw [if_neg c_2] at h
        refine lv_aload_n hx hb dX3_change_8 rfl (lv_at hl 1 rfl) ?_
        refine va_get (D := (dC, dI)) (ci := 3) (v := .ref (ad 5)) (C := RX3) (T := TX3) (N := 4) hx hb hts jX3_change_X3 hown hKw hP 2 cw_shelf rfl 2 (by decide) (hts (.fieldLink RX3 18 "LendThreads$Shelf" "holders" "[I") (by decide +kernel)) (fun _ h9 => h9) rfl dX3_change_9 ?_
        refine lv_iload_n hx hb dX3_change_12 rfl (lv_at hl 0 rfl) ?_
        obtain ⟨g_3, h⟩ := gd_some h
        refine va_iald hx hb hKw hP 5 0 (cw_arr (k := 5) (by decide) (by decide)) rfl (inb_in g_3) dX3_change_13 ?_
        refine lv_iload_n hx hb dX3_change_14 rfl (lv_at hl 2 rfl) ?_
        refine lv_icmp_ne (tgt := 39) hx hb dX3_change_15 (by decide) (fun c_4 => ?_) (fun c_4 => ?_)
        · rw [if_neg c_4] at h
          refine lv_iinc (v := v3_2 + 1) (lv' := [(3, .int (v3_2 + 1)), (0, .ref (ad 2)), (1, .int p1), (2, .int p2)]) hx hb dX3_change_39 hl (k := 0) rfl rfl (by decide) rfl (fun ls hl => ?_)
          refine lv_goto (tgt := 2) hx hb dX3_change_42 (by decide) ?_
          exact ih M_1 (v3_2 + 1) _ _ _ h hP hS (lv_sub hl [0, 1, 2, 3] rfl)
        · rw [if_pos c_4] at h
          refine lv_aload_n hx hb dX3_change_18 rfl (lv_at hl 1 rfl) ?_
          refine va_get (D := (dC, dI)) (ci := 3) (v := .ref (ad 3)) (C := RX3) (T := TX3) (N := 4) hx hb hts jX3_change_X3 hown hKw hP 2 cw_shelf rfl 0 (by decide) (hts (.fieldLink RX3 9 "LendThreads$Shelf" "values" "[I") (by decide +kernel)) (fun _ h9 => h9) rfl dX3_change_19 ?_
          refine lv_iload_n hx hb dX3_change_22 rfl (lv_at hl 0 rfl) ?_
          refine lv_aload_n hx hb dX3_change_23 rfl (lv_at hl 1 rfl) ?_
          refine va_get (D := (dC, dI)) (ci := 3) (v := .ref (ad 3)) (C := RX3) (T := TX3) (N := 4) hx hb hts jX3_change_X3 hown hKw hP 2 cw_shelf rfl 0 (by decide) (hts (.fieldLink RX3 9 "LendThreads$Shelf" "values" "[I") (by decide +kernel)) (fun _ h9 => h9) rfl dX3_change_24 ?_
          refine lv_iload_n hx hb dX3_change_27 rfl (lv_at hl 0 rfl) ?_
          obtain ⟨g_5, h⟩ := gd_some h
          refine va_iald hx hb hKw hP 3 0 (cw_arr (k := 3) (by decide) (by decide)) rfl (inb_in g_5) dX3_change_28 ?_
          refine lv_iconst (v := 3) hx hb dX3_change_29 (by decide) ?_
          refine lv_imul hx hb dX3_change_30 ?_
          refine lv_iload_n hx hb dX3_change_31 rfl (lv_at hl 2 rfl) ?_
          refine lv_iadd hx hb dX3_change_32 ?_
          refine lv_bipush (v := 10) hx hb dX3_change_33 (by decide) ?_
          refine lv_iload_n hx hb dX3_change_35 rfl (lv_at hl 3 rfl) ?_
          refine lv_imul hx hb dX3_change_36 ?_
          refine lv_iadd hx hb dX3_change_37 ?_
          obtain ⟨g_6, h⟩ := gd_some h
          refine va_iast hx hb hKw hP hD hS 3 0 (cw_arr (k := 3) (by decide) (by decide)) rfl (inb_in g_6) dX3_change_38 (fun H locs hP _ hS => ?_)
          have hP : va_P (dC, dI) vwCl (cW cI c9 ad (up2 M_1 3 v3_2.toNatClampNeg ((((M_1 3 v3_2.toNatClampNeg) * 3) + p1) + (10 * p2)))) H := by show va_P (dC, dI) vwCl (cwl 100 ad (enc cI c9 ad (up2 M_1 3 v3_2.toNatClampNeg ((((M_1 3 v3_2.toNatClampNeg) * 3) + p1) + (10 * p2))))) H; unfold up2; rw [← en_arr (k := 3) (by decide), ← cwl_set (by decide)]; exact hP
          have hD := cwl_D hI (enc cI c9 ad (up2 M_1 3 v3_2.toNatClampNeg ((((M_1 3 v3_2.toNatClampNeg) * 3) + p1) + (10 * p2))))
          generalize up2 M_1 3 v3_2.toNatClampNeg ((((M_1 3 v3_2.toNatClampNeg) * 3) + p1) + (10 * p2)) = M_7 at hP hD h
          replace h := bm_e h
          try dsimp only at h
          refine lv_iinc (v := v3_2 + 1) (lv' := [(3, .int (v3_2 + 1)), (0, .ref (ad 2)), (1, .int p1), (2, .int p2)]) hx hb dX3_change_39 hl (k := 0) rfl rfl (by decide) rfl (fun ls hl => ?_)
          refine lv_goto (tgt := 2) hx hb dX3_change_42 (by decide) ?_
          exact ih M_7 (v3_2 + 1) _ _ _ h hP hS (lv_sub hl [0, 1, 2, 3] rfl)
  refine key2 _ (fun M_1 v3_2 H locs ls h hP hS hl => ?_) 4000 M 0 _ _ _ h hP hS (lv_sub hl [0, 1, 2, 3] rfl)
  have hD := cwl_D hI (enc cI c9 ad M_1)
  try dsimp only at h
  replace h := Option.some.inj h
  subst h
  exact W.vret hx hb hr (fun t ht hW => ⟨⟨_, rfl, rfl, (show va_P (dC, dI) vwCl (cW cI c9 ad M_1) t.heap by rw [ht]; exact hP)⟩, hS.F ht⟩) hS.2.2 dX3_change_45
theorem jX3_restore_X3 : ∀ w ∈ u_ws RX3 TX3 4, w ∈ wsX3_restore := by decide +kernel
def L_X3_restore_2 (K : Mem → Int32 → Option (Mem)) (p1 : Int32) : Nat → Mem → Int32 → Option (Mem)
  | 0, _, _ => none
  | n + 1, M_1, v2_2 => (if 10 ≤ v2_2 then K M_1 v2_2 else gd (inb v2_2 (ln 5)) <| (if (M_1 5 v2_2.toNatClampNeg) = p1 then gd (inb v2_2 (ln 4)) <| gd (inb v2_2 (ln 3)) <| bm (up2 M_1 3 v2_2.toNatClampNeg (M_1 4 v2_2.toNatClampNeg)) fun M_7 => L_X3_restore_2 K p1 n M_7 (v2_2 + 1) else L_X3_restore_2 K p1 n M_1 (v2_2 + 1)))
def F_X3_restore (M : Mem) (p1 : Int32) : Option (Mem) :=
  L_X3_restore_2 (fun M_1 v2_2 => some M_1) p1 4000 M 0
set_option maxHeartbeats 4000000 in
set_option maxRecDepth 100000 in
theorem k_X3_restore (l : Launch) (dC : Nat → ClassId) (dI : Nat → Nat → Nat) (cI c9 : ClassId) (ad : Nat → Nat) (hI : Inj 100 ad) (M : Mem) (p1 : Int32) (q : Mem) (h : F_X3_restore M p1 = some q) : Met l yX3_restore wsX3_restore ({ frames := 0, cells := 0, slots := 0, locals := 0 }) (gP dC dI cI c9 ad M [.ref (ad 2), .int p1]) (va_Qv (fun M' => M' = q) (fun M' t => va_P (dC, dI) vwCl (cW cI c9 ad M') t.heap) (Ac 100 ad)) 0 0 (Ac 100 ad) := by
  refine Met.ofW (cc := cX3_restore) (maxL := 3) (ret := none) (by decide) rfl ?_
  intro p e s m args below meth c s₁ B hml hv
  obtain ⟨rfl, hP, hKK, hKw⟩ := hv
  have hx := B.exec
  have hb := B.bytes
  have hr := B.returns
  have hts := atoms_spec (ws := wsX3_restore) B.pre
  have hown : s.vm.findClass RX3 = some m.cls := findClass_of_methodNamed B.named
  have hlocks := B.notSynchronized
  have hD := cwl_D hI (enc cI c9 ad M)
  have hS : va_S (Ac 100 ad) s.heap s.heap [] := va_S.rf
  have hl := lv_entry ([.ref (ad 2), .int p1]) (n := 3) (Nat.le_of_ble_eq_true rfl)
  rw [lg_entry_eq]
  generalize (lg_sl ([.ref (ad 2), .int p1]) ++ List.replicate (3 - (lg_sl ([.ref (ad 2), .int p1])).length) Slot.unset).toArray = ls at hl ⊢
  have hl : lv_has ls 3 [(0, .ref (ad 2)), (1, .int p1)] := hl
  unfold F_X3_restore at h
  refine lv_iconst (v := 0) hx hb dX3_restore_0 (by decide) ?_
  refine lv_istore_n (lv' := [(2, .int 0), (0, .ref (ad 2)), (1, .int p1)]) hx hb dX3_restore_1 rfl hl (by decide) rfl (fun ls hl => ?_)
  have key2 : ∀ (K : Mem → Int32 → Option (Mem)), (∀ (M_1 : Mem) (v2_2 : Int32) (H : Heap) (locs : List Loc) (ls : Array Slot), K M_1 v2_2 = some q → va_P (dC, dI) vwCl (cW cI c9 ad M_1) H → va_S (Ac 100 ad) s.heap H locs → lv_has ls 3 [(2, .int v2_2), (0, .ref (ad 2)), (1, .int p1)] → W p l e (headSpec wsX3_restore ({ frames := 0, cells := 0, slots := 0, locals := 0 })).room s m ([.ref (ad 2), .int p1] : List Value).toArray below meth c H locs 0 0 (MQ below (va_Qv (fun M' => M' = q) (fun M' t => va_P (dC, dI) vwCl (cW cI c9 ad M') t.heap) (Ac 100 ad)) ([.ref (ad 2), .int p1] : List Value).toArray s 0 0 (Ac 100 ad)) (F0 m 36 ls [])) → ∀ (n : Nat), ∀ (M_1 : Mem) (v2_2 : Int32) (H : Heap) (locs : List Loc) (ls : Array Slot), L_X3_restore_2 K p1 n M_1 v2_2 = some q → va_P (dC, dI) vwCl (cW cI c9 ad M_1) H → va_S (Ac 100 ad) s.heap H locs → lv_has ls 3 [(2, .int v2_2), (0, .ref (ad 2)), (1, .int p1)] → W p l e (headSpec wsX3_restore ({ frames := 0, cells := 0, slots := 0, locals := 0 })).room s m ([.ref (ad 2), .int p1] : List Value).toArray below meth c H locs 0 0 (MQ below (va_Qv (fun M' => M' = q) (fun M' t => va_P (dC, dI) vwCl (cW cI c9 ad M') t.heap) (Ac 100 ad)) ([.ref (ad 2), .int p1] : List Value).toArray s 0 0 (Ac 100 ad)) (F0 m 2 ls []) := by
    intro K hk n
    induction n with
    | zero =>
      intro M_1 v2_2 H locs ls h
      exact absurd h (by simp [L_X3_restore_2])
    | succ n ih =>
      intro M_1 v2_2 H locs ls h hP hS hl
      have hD := cwl_D hI (enc cI c9 ad M_1)
      simp only [L_X3_restore_2] at h
      refine lv_iload_n hx hb dX3_restore_2 rfl (lv_at hl 0 rfl) ?_
      refine lv_bipush (v := 10) hx hb dX3_restore_3 (by decide) ?_
      refine lv_icmp_ge (tgt := 36) hx hb dX3_restore_5 (by decide) (fun c_2 => ?_) (fun c_2 => ?_)
      · rw [if_pos c_2] at h
        exact hk M_1 v2_2 _ _ _ h hP hS (lv_sub hl [0, 1, 2] rfl)
      · rw [if_neg c_2] at h
        refine lv_aload_n hx hb dX3_restore_8 rfl (lv_at hl 1 rfl) ?_
        refine va_get (D := (dC, dI)) (ci := 3) (v := .ref (ad 5)) (C := RX3) (T := TX3) (N := 4) hx hb hts jX3_restore_X3 hown hKw hP 2 cw_shelf rfl 2 (by decide) (hts (.fieldLink RX3 18 "LendThreads$Shelf" "holders" "[I") (by decide +kernel)) (fun _ h9 => h9) rfl dX3_restore_9 ?_
        refine lv_iload_n hx hb dX3_restore_12 rfl (lv_at hl 0 rfl) ?_
        obtain ⟨g_3, h⟩ := gd_some h
        refine va_iald hx hb hKw hP 5 0 (cw_arr (k := 5) (by decide) (by decide)) rfl (inb_in g_3) dX3_restore_13 ?_
        refine lv_iload_n hx hb dX3_restore_14 rfl (lv_at hl 2 rfl) ?_
        refine lv_icmp_ne (tgt := 30) hx hb dX3_restore_15 (by decide) (fun c_4 => ?_) (fun c_4 => ?_)
        · rw [if_neg c_4] at h
          refine lv_iinc (v := v2_2 + 1) (lv' := [(2, .int (v2_2 + 1)), (0, .ref (ad 2)), (1, .int p1)]) hx hb dX3_restore_30 hl (k := 0) rfl rfl (by decide) rfl (fun ls hl => ?_)
          refine lv_goto (tgt := 2) hx hb dX3_restore_33 (by decide) ?_
          exact ih M_1 (v2_2 + 1) _ _ _ h hP hS (lv_sub hl [0, 1, 2] rfl)
        · rw [if_pos c_4] at h
          refine lv_aload_n hx hb dX3_restore_18 rfl (lv_at hl 1 rfl) ?_
          refine va_get (D := (dC, dI)) (ci := 3) (v := .ref (ad 3)) (C := RX3) (T := TX3) (N := 4) hx hb hts jX3_restore_X3 hown hKw hP 2 cw_shelf rfl 0 (by decide) (hts (.fieldLink RX3 9 "LendThreads$Shelf" "values" "[I") (by decide +kernel)) (fun _ h9 => h9) rfl dX3_restore_19 ?_
          refine lv_iload_n hx hb dX3_restore_22 rfl (lv_at hl 0 rfl) ?_
          refine lv_aload_n hx hb dX3_restore_23 rfl (lv_at hl 1 rfl) ?_
          refine va_get (D := (dC, dI)) (ci := 3) (v := .ref (ad 4)) (C := RX3) (T := TX3) (N := 4) hx hb hts jX3_restore_X3 hown hKw hP 2 cw_shelf rfl 1 (by decide) (hts (.fieldLink RX3 15 "LendThreads$Shelf" "valuesWhenTaken" "[I") (by decide +kernel)) (fun _ h9 => h9) rfl dX3_restore_24 ?_
          refine lv_iload_n hx hb dX3_restore_27 rfl (lv_at hl 0 rfl) ?_
          obtain ⟨g_5, h⟩ := gd_some h
          refine va_iald hx hb hKw hP 4 0 (cw_arr (k := 4) (by decide) (by decide)) rfl (inb_in g_5) dX3_restore_28 ?_
          obtain ⟨g_6, h⟩ := gd_some h
          refine va_iast hx hb hKw hP hD hS 3 0 (cw_arr (k := 3) (by decide) (by decide)) rfl (inb_in g_6) dX3_restore_29 (fun H locs hP _ hS => ?_)
          have hP : va_P (dC, dI) vwCl (cW cI c9 ad (up2 M_1 3 v2_2.toNatClampNeg (M_1 4 v2_2.toNatClampNeg))) H := by show va_P (dC, dI) vwCl (cwl 100 ad (enc cI c9 ad (up2 M_1 3 v2_2.toNatClampNeg (M_1 4 v2_2.toNatClampNeg)))) H; unfold up2; rw [← en_arr (k := 3) (by decide), ← cwl_set (by decide)]; exact hP
          have hD := cwl_D hI (enc cI c9 ad (up2 M_1 3 v2_2.toNatClampNeg (M_1 4 v2_2.toNatClampNeg)))
          generalize up2 M_1 3 v2_2.toNatClampNeg (M_1 4 v2_2.toNatClampNeg) = M_7 at hP hD h
          replace h := bm_e h
          try dsimp only at h
          refine lv_iinc (v := v2_2 + 1) (lv' := [(2, .int (v2_2 + 1)), (0, .ref (ad 2)), (1, .int p1)]) hx hb dX3_restore_30 hl (k := 0) rfl rfl (by decide) rfl (fun ls hl => ?_)
          refine lv_goto (tgt := 2) hx hb dX3_restore_33 (by decide) ?_
          exact ih M_7 (v2_2 + 1) _ _ _ h hP hS (lv_sub hl [0, 1, 2] rfl)
  refine key2 _ (fun M_1 v2_2 H locs ls h hP hS hl => ?_) 4000 M 0 _ _ _ h hP hS (lv_sub hl [0, 1, 2] rfl)
  have hD := cwl_D hI (enc cI c9 ad M_1)
  try dsimp only at h
  replace h := Option.some.inj h
  subst h
  exact W.vret hx hb hr (fun t ht hW => ⟨⟨_, rfl, rfl, (show va_P (dC, dI) vwCl (cW cI c9 ad M_1) t.heap by rw [ht]; exact hP)⟩, hS.F ht⟩) hS.2.2 dX3_restore_36
theorem jX3_release_X3 : ∀ w ∈ u_ws RX3 TX3 4, w ∈ wsX3_release := by decide +kernel
def L_X3_release_2 (K : Mem → Int32 → Option (Mem)) (p1 : Int32) : Nat → Mem → Int32 → Option (Mem)
  | 0, _, _ => none
  | n + 1, M_1, v2_2 => (if 10 ≤ v2_2 then K M_1 v2_2 else bi (F_X2_remove M_1 6 v2_2 p1) fun q_3 => gd (inb v2_2 (ln 5)) <| (if (q_3 5 v2_2.toNatClampNeg) = p1 then gd (inb v2_2 (ln 5)) <| bm (up2 q_3 5 v2_2.toNatClampNeg (-1)) fun M_9 => L_X3_release_2 K p1 n M_9 (v2_2 + 1) else L_X3_release_2 K p1 n q_3 (v2_2 + 1)))
def F_X3_release (M : Mem) (p1 : Int32) : Option (Mem) :=
  L_X3_release_2 (fun M_1 v2_2 => some M_1) p1 4000 M 0
set_option maxHeartbeats 4000000 in
set_option maxRecDepth 100000 in
theorem k_X3_release (l : Launch) (dC : Nat → ClassId) (dI : Nat → Nat → Nat) (cI c9 : ClassId) (ad : Nat → Nat) (hI : Inj 100 ad) (M : Mem) (p1 : Int32) (q : Mem) (h : F_X3_release M p1 = some q) : Met l yX3_release wsX3_release ({ frames := 3, cells := 0, slots := 0, locals := 69 }) (gP dC dI cI c9 ad M [.ref (ad 2), .int p1]) (va_Qv (fun M' => M' = q) (fun M' t => va_P (dC, dI) vwCl (cW cI c9 ad M') t.heap) (Ac 100 ad)) 0 0 (Ac 100 ad) := by
  refine Met.ofW (cc := cX3_release) (maxL := 3) (ret := none) (by decide) rfl ?_
  intro p e s m args below meth c s₁ B hml hv
  obtain ⟨rfl, hP, hKK, hKw⟩ := hv
  have hx := B.exec
  have hb := B.bytes
  have hr := B.returns
  have hts := atoms_spec (ws := wsX3_release) B.pre
  have hown : s.vm.findClass RX3 = some m.cls := findClass_of_methodNamed B.named
  have hlocks := B.notSynchronized
  have hD := cwl_D hI (enc cI c9 ad M)
  have hS : va_S (Ac 100 ad) s.heap s.heap [] := va_S.rf
  have hl := lv_entry ([.ref (ad 2), .int p1]) (n := 3) (Nat.le_of_ble_eq_true rfl)
  rw [lg_entry_eq]
  generalize (lg_sl ([.ref (ad 2), .int p1]) ++ List.replicate (3 - (lg_sl ([.ref (ad 2), .int p1])).length) Slot.unset).toArray = ls at hl ⊢
  have hl : lv_has ls 3 [(0, .ref (ad 2)), (1, .int p1)] := hl
  unfold F_X3_release at h
  refine lv_iconst (v := 0) hx hb dX3_release_0 (by decide) ?_
  refine lv_istore_n (lv' := [(2, .int 0), (0, .ref (ad 2)), (1, .int p1)]) hx hb dX3_release_1 rfl hl (by decide) rfl (fun ls hl => ?_)
  have key2 : ∀ (K : Mem → Int32 → Option (Mem)), (∀ (M_1 : Mem) (v2_2 : Int32) (H : Heap) (locs : List Loc) (ls : Array Slot), K M_1 v2_2 = some q → va_P (dC, dI) vwCl (cW cI c9 ad M_1) H → va_S (Ac 100 ad) s.heap H locs → lv_has ls 3 [(2, .int v2_2), (0, .ref (ad 2)), (1, .int p1)] → W p l e (headSpec wsX3_release ({ frames := 3, cells := 0, slots := 0, locals := 69 })).room s m ([.ref (ad 2), .int p1] : List Value).toArray below meth c H locs 0 0 (MQ below (va_Qv (fun M' => M' = q) (fun M' t => va_P (dC, dI) vwCl (cW cI c9 ad M') t.heap) (Ac 100 ad)) ([.ref (ad 2), .int p1] : List Value).toArray s 0 0 (Ac 100 ad)) (F0 m 40 ls [])) → ∀ (n : Nat), ∀ (M_1 : Mem) (v2_2 : Int32) (H : Heap) (locs : List Loc) (ls : Array Slot), L_X3_release_2 K p1 n M_1 v2_2 = some q → va_P (dC, dI) vwCl (cW cI c9 ad M_1) H → va_S (Ac 100 ad) s.heap H locs → lv_has ls 3 [(2, .int v2_2), (0, .ref (ad 2)), (1, .int p1)] → W p l e (headSpec wsX3_release ({ frames := 3, cells := 0, slots := 0, locals := 69 })).room s m ([.ref (ad 2), .int p1] : List Value).toArray below meth c H locs 0 0 (MQ below (va_Qv (fun M' => M' = q) (fun M' t => va_P (dC, dI) vwCl (cW cI c9 ad M') t.heap) (Ac 100 ad)) ([.ref (ad 2), .int p1] : List Value).toArray s 0 0 (Ac 100 ad)) (F0 m 2 ls []) := by
    intro K hk n
    induction n with
    | zero =>
      intro M_1 v2_2 H locs ls h
      exact absurd h (by simp [L_X3_release_2])
    | succ n ih =>
      intro M_1 v2_2 H locs ls h hP hS hl
      have hD := cwl_D hI (enc cI c9 ad M_1)
      simp only [L_X3_release_2] at h
      refine lv_iload_n hx hb dX3_release_2 rfl (lv_at hl 0 rfl) ?_
      refine lv_bipush (v := 10) hx hb dX3_release_3 (by decide) ?_
      refine lv_icmp_ge (tgt := 40) hx hb dX3_release_5 (by decide) (fun c_2 => ?_) (fun c_2 => ?_)
      · rw [if_pos c_2] at h
        exact hk M_1 v2_2 _ _ _ h hP hS (lv_sub hl [0, 1, 2] rfl)
      · rw [if_neg c_2] at h
        refine lv_aload_n hx hb dX3_release_8 rfl (lv_at hl 1 rfl) ?_
        refine va_get (D := (dC, dI)) (ci := 3) (v := .ref (ad 6)) (C := RX3) (T := TX3) (N := 4) hx hb hts jX3_release_X3 hown hKw hP 2 cw_shelf rfl 3 (by decide) (hts (.fieldLink RX3 26 "LendThreads$Shelf" "lines" "LLendThreads$Rows;") (by decide +kernel)) (fun _ h9 => h9) rfl dX3_release_9 ?_
        refine lv_iload_n hx hb dX3_release_12 rfl (lv_at hl 0 rfl) ?_
        refine lv_iload_n hx hb dX3_release_13 rfl (lv_at hl 2 rfl) ?_
        obtain ⟨q_3, hq_3, h⟩ := bi_some h
        refine va_callv (va_runV (As := [.int v2_2, .int p1]) (rest := []) ⟨hx, hb, hml, hown, hts⟩ (k_X2_remove l dC dI cI c9 ad hI M_1 6 rok_6 v2_2 p1 q_3 hq_3) (cwV 2 hts gX3_release_X2_remove rfl rfl rfl (by decide +kernel) ⟨Nat.le_of_ble_eq_true rfl, Nat.le_of_ble_eq_true rfl⟩) (gP_preV hKK hKw hP (va_recv hKw hP (ci := 2) (q0 := 6) rfl (cw_rows rok_6.lt rok_6.k0))) rfl rfl hl.1 rfl (lv_room (Nat.le_of_ble_eq_true rfl)) dX3_release_14 ⟨Nat.zero_le _, Nat.zero_le _⟩) hS (fun q _ h => h) (fun q h => h) (fun M_5 t H locs ht hvm hw hP hz1 hk1 hS => ?_)
        replace hw := hw.symm
        subst hw
        rw [ht] at hP
        have hD := cwl_D hI (enc cI c9 ad q_3)
        refine lv_aload_n hx hb dX3_release_17 rfl (lv_at hl 1 rfl) ?_
        refine va_get (D := (dC, dI)) (ci := 3) (v := .ref (ad 5)) (C := RX3) (T := TX3) (N := 4) hx hb hts jX3_release_X3 hown hKw hP 2 cw_shelf rfl 2 (by decide) (hts (.fieldLink RX3 18 "LendThreads$Shelf" "holders" "[I") (by decide +kernel)) (fun _ h9 => h9) rfl dX3_release_18 ?_
        refine lv_iload_n hx hb dX3_release_21 rfl (lv_at hl 0 rfl) ?_
        obtain ⟨g_6, h⟩ := gd_some h
        refine va_iald hx hb hKw hP 5 0 (cw_arr (k := 5) (by decide) (by decide)) rfl (inb_in g_6) dX3_release_22 ?_
        refine lv_iload_n hx hb dX3_release_23 rfl (lv_at hl 2 rfl) ?_
        refine lv_icmp_ne (tgt := 34) hx hb dX3_release_24 (by decide) (fun c_7 => ?_) (fun c_7 => ?_)
        · rw [if_neg c_7] at h
          refine lv_iinc (v := v2_2 + 1) (lv' := [(2, .int (v2_2 + 1)), (0, .ref (ad 2)), (1, .int p1)]) hx hb dX3_release_34 hl (k := 0) rfl rfl (by decide) rfl (fun ls hl => ?_)
          refine lv_goto (tgt := 2) hx hb dX3_release_37 (by decide) ?_
          exact ih q_3 (v2_2 + 1) _ _ _ h hP hS (lv_sub hl [0, 1, 2] rfl)
        · rw [if_pos c_7] at h
          refine lv_aload_n hx hb dX3_release_27 rfl (lv_at hl 1 rfl) ?_
          refine va_get (D := (dC, dI)) (ci := 3) (v := .ref (ad 5)) (C := RX3) (T := TX3) (N := 4) hx hb hts jX3_release_X3 hown hKw hP 2 cw_shelf rfl 2 (by decide) (hts (.fieldLink RX3 18 "LendThreads$Shelf" "holders" "[I") (by decide +kernel)) (fun _ h9 => h9) rfl dX3_release_28 ?_
          refine lv_iload_n hx hb dX3_release_31 rfl (lv_at hl 0 rfl) ?_
          refine lv_iconst (v := (-1)) hx hb dX3_release_32 (by decide) ?_
          obtain ⟨g_8, h⟩ := gd_some h
          refine va_iast hx hb hKw hP hD hS 5 0 (cw_arr (k := 5) (by decide) (by decide)) rfl (inb_in g_8) dX3_release_33 (fun H locs hP _ hS => ?_)
          have hP : va_P (dC, dI) vwCl (cW cI c9 ad (up2 q_3 5 v2_2.toNatClampNeg (-1))) H := by show va_P (dC, dI) vwCl (cwl 100 ad (enc cI c9 ad (up2 q_3 5 v2_2.toNatClampNeg (-1)))) H; unfold up2; rw [← en_arr (k := 5) (by decide), ← cwl_set (by decide)]; exact hP
          have hD := cwl_D hI (enc cI c9 ad (up2 q_3 5 v2_2.toNatClampNeg (-1)))
          generalize up2 q_3 5 v2_2.toNatClampNeg (-1) = M_9 at hP hD h
          replace h := bm_e h
          try dsimp only at h
          refine lv_iinc (v := v2_2 + 1) (lv' := [(2, .int (v2_2 + 1)), (0, .ref (ad 2)), (1, .int p1)]) hx hb dX3_release_34 hl (k := 0) rfl rfl (by decide) rfl (fun ls hl => ?_)
          refine lv_goto (tgt := 2) hx hb dX3_release_37 (by decide) ?_
          exact ih M_9 (v2_2 + 1) _ _ _ h hP hS (lv_sub hl [0, 1, 2] rfl)
  refine key2 _ (fun M_1 v2_2 H locs ls h hP hS hl => ?_) 4000 M 0 _ _ _ h hP hS (lv_sub hl [0, 1, 2] rfl)
  have hD := cwl_D hI (enc cI c9 ad M_1)
  try dsimp only at h
  replace h := Option.some.inj h
  subst h
  exact W.vret hx hb hr (fun t ht hW => ⟨⟨_, rfl, rfl, (show va_P (dC, dI) vwCl (cW cI c9 ad M_1) t.heap by rw [ht]; exact hP)⟩, hS.F ht⟩) hS.2.2 dX3_release_40
theorem jX3_countOf_X3 : ∀ w ∈ u_ws RX3 TX3 4, w ∈ wsX3_countOf := by decide +kernel
def L_X3_countOf_4 (K : Int32 → Int32 → Option (Int32)) (M : Mem) (p1 : Int32) : Nat → Int32 → Int32 → Option (Int32)
  | 0, _, _ => none
  | n + 1, v2_4, v3_4 => (if 10 ≤ v3_4 then K v2_4 v3_4 else gd (inb v3_4 (ln 5)) <| (if (M 5 v3_4.toNatClampNeg) = p1 then L_X3_countOf_4 K M p1 n (v2_4 + 1) (v3_4 + 1) else L_X3_countOf_4 K M p1 n (v2_4 + 0) (v3_4 + 1)))
def F_X3_countOf (M : Mem) (p1 : Int32) : Option (Int32) :=
  L_X3_countOf_4 (fun v2_4 v3_4 => some v2_4) M p1 4000 0 0
set_option maxHeartbeats 4000000 in
set_option maxRecDepth 100000 in
theorem k_X3_countOf (l : Launch) (dC : Nat → ClassId) (dI : Nat → Nat → Nat) (cI c9 : ClassId) (ad : Nat → Nat) (hI : Inj 100 ad) (M : Mem) (p1 : Int32) (q : Int32) (h : F_X3_countOf M p1 = some q) : Met l yX3_countOf wsX3_countOf ({ frames := 0, cells := 0, slots := 0, locals := 0 }) (gP dC dI cI c9 ad M [.ref (ad 2), .int p1]) (vp_Si (fun x => x = q)) 0 0 (fun _ => False) := by
  refine Met.ofW (cc := cX3_countOf) (maxL := 4) (ret := (some .int)) (by decide) rfl ?_
  intro p e s m args below meth c s₁ B hml hv
  obtain ⟨rfl, hP, hKK, hKw⟩ := hv
  have hx := B.exec
  have hb := B.bytes
  have hr := B.returns
  have hts := atoms_spec (ws := wsX3_countOf) B.pre
  have hown : s.vm.findClass RX3 = some m.cls := findClass_of_methodNamed B.named
  have hlocks := B.notSynchronized
  have hl := lv_entry ([.ref (ad 2), .int p1]) (n := 4) (Nat.le_of_ble_eq_true rfl)
  rw [lg_entry_eq]
  generalize (lg_sl ([.ref (ad 2), .int p1]) ++ List.replicate (4 - (lg_sl ([.ref (ad 2), .int p1])).length) Slot.unset).toArray = ls at hl ⊢
  have hl : lv_has ls 4 [(0, .ref (ad 2)), (1, .int p1)] := hl
  unfold F_X3_countOf at h
  refine lv_iconst (v := 0) hx hb dX3_countOf_0 (by decide) ?_
  refine lv_istore_n (lv' := [(2, .int 0), (0, .ref (ad 2)), (1, .int p1)]) hx hb dX3_countOf_1 rfl hl (by decide) rfl (fun ls hl => ?_)
  refine lv_iconst (v := 0) hx hb dX3_countOf_2 (by decide) ?_
  refine lv_istore_n (lv' := [(3, .int 0), (2, .int 0), (0, .ref (ad 2)), (1, .int p1)]) hx hb dX3_countOf_3 rfl hl (by decide) rfl (fun ls hl => ?_)
  have key4 : ∀ (K : Int32 → Int32 → Option (Int32)), (∀ (v2_4 v3_4 : Int32) (ls : Array Slot), K v2_4 v3_4 = some q → lv_has ls 4 [(3, .int v3_4), (2, .int v2_4), (0, .ref (ad 2)), (1, .int p1)] → W p l e (headSpec wsX3_countOf ({ frames := 0, cells := 0, slots := 0, locals := 0 })).room s m ([.ref (ad 2), .int p1] : List Value).toArray below meth c s.heap [] 0 0 (MQ below (vp_Si (fun x => x = q)) ([.ref (ad 2), .int p1] : List Value).toArray s 0 0 (fun _ => False)) (F0 m 34 ls [])) → ∀ (n : Nat), ∀ (v2_4 v3_4 : Int32) (ls : Array Slot), L_X3_countOf_4 K M p1 n v2_4 v3_4 = some q → lv_has ls 4 [(3, .int v3_4), (2, .int v2_4), (0, .ref (ad 2)), (1, .int p1)] → W p l e (headSpec wsX3_countOf ({ frames := 0, cells := 0, slots := 0, locals := 0 })).room s m ([.ref (ad 2), .int p1] : List Value).toArray below meth c s.heap [] 0 0 (MQ below (vp_Si (fun x => x = q)) ([.ref (ad 2), .int p1] : List Value).toArray s 0 0 (fun _ => False)) (F0 m 4 ls []) := by
    intro K hk n
    induction n with
    | zero =>
      intro v2_4 v3_4 ls h
      exact absurd h (by simp [L_X3_countOf_4])
    | succ n ih =>
      intro v2_4 v3_4 ls h  hl
      simp only [L_X3_countOf_4] at h
      refine lv_iload_n hx hb dX3_countOf_4 rfl (lv_at hl 0 rfl) ?_
      refine lv_bipush (v := 10) hx hb dX3_countOf_5 (by decide) ?_
      refine lv_icmp_ge (tgt := 34) hx hb dX3_countOf_7 (by decide) (fun c_1 => ?_) (fun c_1 => ?_)
      · rw [if_pos c_1] at h
        exact hk v2_4 v3_4 _ h (lv_sub hl [0, 1, 2, 3] rfl)
      · rw [if_neg c_1] at h
        refine lv_iload_n hx hb dX3_countOf_10 rfl (lv_at hl 1 rfl) ?_
        refine lv_aload_n hx hb dX3_countOf_11 rfl (lv_at hl 2 rfl) ?_
        refine va_get (D := (dC, dI)) (ci := 3) (v := .ref (ad 5)) (C := RX3) (T := TX3) (N := 4) hx hb hts jX3_countOf_X3 hown hKw hP 2 cw_shelf rfl 2 (by decide) (hts (.fieldLink RX3 18 "LendThreads$Shelf" "holders" "[I") (by decide +kernel)) (fun _ h9 => h9) rfl dX3_countOf_12 ?_
        refine lv_iload_n hx hb dX3_countOf_15 rfl (lv_at hl 0 rfl) ?_
        obtain ⟨g_2, h⟩ := gd_some h
        refine va_iald hx hb hKw hP 5 0 (cw_arr (k := 5) (by decide) (by decide)) rfl (inb_in g_2) dX3_countOf_16 ?_
        refine lv_iload_n hx hb dX3_countOf_17 rfl (lv_at hl 3 rfl) ?_
        refine lv_icmp_ne (tgt := 25) hx hb dX3_countOf_18 (by decide) (fun c_3 => ?_) (fun c_3 => ?_)
        · rw [if_neg c_3] at h
          refine lv_iconst (v := 0) hx hb dX3_countOf_25 (by decide) ?_
          refine lv_iadd hx hb dX3_countOf_26 ?_
          refine lv_istore_n (lv' := [(2, .int (v2_4 + 0)), (3, .int v3_4), (0, .ref (ad 2)), (1, .int p1)]) hx hb dX3_countOf_27 rfl hl (by decide) rfl (fun ls hl => ?_)
          refine lv_iinc (v := v3_4 + 1) (lv' := [(3, .int (v3_4 + 1)), (2, .int (v2_4 + 0)), (0, .ref (ad 2)), (1, .int p1)]) hx hb dX3_countOf_28 hl (k := 1) rfl rfl (by decide) rfl (fun ls hl => ?_)
          refine lv_goto (tgt := 4) hx hb dX3_countOf_31 (by decide) ?_
          exact ih (v2_4 + 0) (v3_4 + 1) _ h (lv_sub hl [0, 1, 2, 3] rfl)
        · rw [if_pos c_3] at h
          refine lv_iconst (v := 1) hx hb dX3_countOf_21 (by decide) ?_
          refine lv_goto (tgt := 26) hx hb dX3_countOf_22 (by decide) ?_
          refine lv_iadd hx hb dX3_countOf_26 ?_
          refine lv_istore_n (lv' := [(2, .int (v2_4 + 1)), (3, .int v3_4), (0, .ref (ad 2)), (1, .int p1)]) hx hb dX3_countOf_27 rfl hl (by decide) rfl (fun ls hl => ?_)
          refine lv_iinc (v := v3_4 + 1) (lv' := [(3, .int (v3_4 + 1)), (2, .int (v2_4 + 1)), (0, .ref (ad 2)), (1, .int p1)]) hx hb dX3_countOf_28 hl (k := 1) rfl rfl (by decide) rfl (fun ls hl => ?_)
          refine lv_goto (tgt := 4) hx hb dX3_countOf_31 (by decide) ?_
          exact ih (v2_4 + 1) (v3_4 + 1) _ h (lv_sub hl [0, 1, 2, 3] rfl)
  refine key4 _ (fun v2_4 v3_4 ls h  hl => ?_) 4000 0 0 _ h (lv_sub hl [0, 1, 2, 3] rfl)
  try dsimp only at h
  refine lv_iload_n hx hb dX3_countOf_34 rfl (lv_at hl 1 rfl) ?_
  replace h := Option.some.inj h
  subst h
  exact W.iret (v := v2_4) hx hb hr (fun t ht hW => ⟨_, rfl, rfl, ht⟩) (fun _ h => by cases h) dX3_countOf_35
theorem jX3_holderAwaitedBy_X3 : ∀ w ∈ u_ws RX3 TX3 4, w ∈ wsX3_holderAwaitedBy := by decide +kernel
def L_X3_holderAwaitedBy_2 (K : Int32 → Option (Int32)) (M : Mem) (p1 : Int32) : Nat → Int32 → Option (Int32)
  | 0, _ => none
  | n + 1, v2_2 => (if 10 ≤ v2_2 then K v2_2 else bi (F_X2_placeOf M 6 v2_2 p1) fun q_2 => (if q_2 = (-1) then L_X3_holderAwaitedBy_2 K M p1 n (v2_2 + 1) else gd (inb v2_2 (ln 5)) <| some (M 5 v2_2.toNatClampNeg)))
def F_X3_holderAwaitedBy (M : Mem) (p1 : Int32) : Option (Int32) :=
  L_X3_holderAwaitedBy_2 (fun v2_2 => some (-1)) M p1 4000 0
set_option maxHeartbeats 4000000 in
set_option maxRecDepth 100000 in
theorem k_X3_holderAwaitedBy (l : Launch) (dC : Nat → ClassId) (dI : Nat → Nat → Nat) (cI c9 : ClassId) (ad : Nat → Nat) (hI : Inj 100 ad) (M : Mem) (p1 : Int32) (q : Int32) (h : F_X3_holderAwaitedBy M p1 = some q) : Met l yX3_holderAwaitedBy wsX3_holderAwaitedBy ({ frames := 2, cells := 0, slots := 0, locals := 45 }) (gP dC dI cI c9 ad M [.ref (ad 2), .int p1]) (vp_Si (fun x => x = q)) 0 0 (fun _ => False) := by
  refine Met.ofW (cc := cX3_holderAwaitedBy) (maxL := 3) (ret := (some .int)) (by decide) rfl ?_
  intro p e s m args below meth c s₁ B hml hv
  obtain ⟨rfl, hP, hKK, hKw⟩ := hv
  have hx := B.exec
  have hb := B.bytes
  have hr := B.returns
  have hts := atoms_spec (ws := wsX3_holderAwaitedBy) B.pre
  have hown : s.vm.findClass RX3 = some m.cls := findClass_of_methodNamed B.named
  have hlocks := B.notSynchronized
  have hl := lv_entry ([.ref (ad 2), .int p1]) (n := 3) (Nat.le_of_ble_eq_true rfl)
  rw [lg_entry_eq]
  generalize (lg_sl ([.ref (ad 2), .int p1]) ++ List.replicate (3 - (lg_sl ([.ref (ad 2), .int p1])).length) Slot.unset).toArray = ls at hl ⊢
  have hl : lv_has ls 3 [(0, .ref (ad 2)), (1, .int p1)] := hl
  unfold F_X3_holderAwaitedBy at h
  refine lv_iconst (v := 0) hx hb dX3_holderAwaitedBy_0 (by decide) ?_
  refine lv_istore_n (lv' := [(2, .int 0), (0, .ref (ad 2)), (1, .int p1)]) hx hb dX3_holderAwaitedBy_1 rfl hl (by decide) rfl (fun ls hl => ?_)
  have key2 : ∀ (K : Int32 → Option (Int32)), (∀ (v2_2 : Int32) (ls : Array Slot), K v2_2 = some q → lv_has ls 3 [(2, .int v2_2), (0, .ref (ad 2)), (1, .int p1)] → W p l e (headSpec wsX3_holderAwaitedBy ({ frames := 2, cells := 0, slots := 0, locals := 45 })).room s m ([.ref (ad 2), .int p1] : List Value).toArray below meth c s.heap [] 0 0 (MQ below (vp_Si (fun x => x = q)) ([.ref (ad 2), .int p1] : List Value).toArray s 0 0 (fun _ => False)) (F0 m 34 ls [])) → ∀ (n : Nat), ∀ (v2_2 : Int32) (ls : Array Slot), L_X3_holderAwaitedBy_2 K M p1 n v2_2 = some q → lv_has ls 3 [(2, .int v2_2), (0, .ref (ad 2)), (1, .int p1)] → W p l e (headSpec wsX3_holderAwaitedBy ({ frames := 2, cells := 0, slots := 0, locals := 45 })).room s m ([.ref (ad 2), .int p1] : List Value).toArray below meth c s.heap [] 0 0 (MQ below (vp_Si (fun x => x = q)) ([.ref (ad 2), .int p1] : List Value).toArray s 0 0 (fun _ => False)) (F0 m 2 ls []) := by
    intro K hk n
    induction n with
    | zero =>
      intro v2_2 ls h
      exact absurd h (by simp [L_X3_holderAwaitedBy_2])
    | succ n ih =>
      intro v2_2 ls h  hl
      simp only [L_X3_holderAwaitedBy_2] at h
      refine lv_iload_n hx hb dX3_holderAwaitedBy_2 rfl (lv_at hl 0 rfl) ?_
      refine lv_bipush (v := 10) hx hb dX3_holderAwaitedBy_3 (by decide) ?_
      refine lv_icmp_ge (tgt := 34) hx hb dX3_holderAwaitedBy_5 (by decide) (fun c_1 => ?_) (fun c_1 => ?_)
      · rw [if_pos c_1] at h
        exact hk v2_2 _ h (lv_sub hl [0, 1, 2] rfl)
      · rw [if_neg c_1] at h
        refine lv_aload_n hx hb dX3_holderAwaitedBy_8 rfl (lv_at hl 1 rfl) ?_
        refine va_get (D := (dC, dI)) (ci := 3) (v := .ref (ad 6)) (C := RX3) (T := TX3) (N := 4) hx hb hts jX3_holderAwaitedBy_X3 hown hKw hP 2 cw_shelf rfl 3 (by decide) (hts (.fieldLink RX3 26 "LendThreads$Shelf" "lines" "LLendThreads$Rows;") (by decide +kernel)) (fun _ h9 => h9) rfl dX3_holderAwaitedBy_9 ?_
        refine lv_iload_n hx hb dX3_holderAwaitedBy_12 rfl (lv_at hl 0 rfl) ?_
        refine lv_iload_n hx hb dX3_holderAwaitedBy_13 rfl (lv_at hl 2 rfl) ?_
        obtain ⟨q_2, hq_2, h⟩ := bi_some h
        refine vp_callSi (va_Run.run (va_runV (As := [.int v2_2, .int p1]) (rest := []) ⟨hx, hb, hml, hown, hts⟩ (k_X2_placeOf l dC dI cI c9 ad hI M 6 rok_6 v2_2 p1 q_2 hq_2) (cwV 2 hts gX3_holderAwaitedBy_X2_placeOf rfl rfl rfl (by decide +kernel) ⟨Nat.le_of_ble_eq_true rfl, Nat.le_of_ble_eq_true rfl⟩) (gP_preV hKK hKw hP (va_recv hKw hP (ci := 2) (q0 := 6) rfl (cw_rows rok_6.lt rok_6.k0))) rfl rfl hl.1 rfl (lv_room (Nat.le_of_ble_eq_true rfl)) dX3_holderAwaitedBy_14 ⟨Nat.zero_le _, Nat.zero_le _⟩)) (fun r_3 hr_3 => ?_)
        replace hr_3 := hr_3.symm
        subst hr_3
        refine lv_iconst (v := (-1)) hx hb dX3_holderAwaitedBy_17 (by decide) ?_
        refine lv_icmp_eq (tgt := 28) hx hb dX3_holderAwaitedBy_18 (by decide) (fun c_4 => ?_) (fun c_4 => ?_)
        · rw [if_pos c_4] at h
          refine lv_iinc (v := v2_2 + 1) (lv' := [(2, .int (v2_2 + 1)), (0, .ref (ad 2)), (1, .int p1)]) hx hb dX3_holderAwaitedBy_28 hl (k := 0) rfl rfl (by decide) rfl (fun ls hl => ?_)
          refine lv_goto (tgt := 2) hx hb dX3_holderAwaitedBy_31 (by decide) ?_
          exact ih (v2_2 + 1) _ h (lv_sub hl [0, 1, 2] rfl)
        · rw [if_neg c_4] at h
          refine lv_aload_n hx hb dX3_holderAwaitedBy_21 rfl (lv_at hl 1 rfl) ?_
          refine va_get (D := (dC, dI)) (ci := 3) (v := .ref (ad 5)) (C := RX3) (T := TX3) (N := 4) hx hb hts jX3_holderAwaitedBy_X3 hown hKw hP 2 cw_shelf rfl 2 (by decide) (hts (.fieldLink RX3 18 "LendThreads$Shelf" "holders" "[I") (by decide +kernel)) (fun _ h9 => h9) rfl dX3_holderAwaitedBy_22 ?_
          refine lv_iload_n hx hb dX3_holderAwaitedBy_25 rfl (lv_at hl 0 rfl) ?_
          obtain ⟨g_5, h⟩ := gd_some h
          refine va_iald hx hb hKw hP 5 0 (cw_arr (k := 5) (by decide) (by decide)) rfl (inb_in g_5) dX3_holderAwaitedBy_26 ?_
          replace h := Option.some.inj h
          subst h
          exact W.iret (v := (M 5 v2_2.toNatClampNeg)) hx hb hr (fun t ht hW => ⟨_, rfl, rfl, ht⟩) (fun _ h => by cases h) dX3_holderAwaitedBy_27
  refine key2 _ (fun v2_2 ls h  hl => ?_) 4000 0 _ h (lv_sub hl [0, 1, 2] rfl)
  try dsimp only at h
  refine lv_iconst (v := (-1)) hx hb dX3_holderAwaitedBy_34 (by decide) ?_
  replace h := Option.some.inj h
  subst h
  exact W.iret (v := (-1)) hx hb hr (fun t ht hW => ⟨_, rfl, rfl, ht⟩) (fun _ h => by cases h) dX3_holderAwaitedBy_35
