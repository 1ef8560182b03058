theorem jX4_isStep_X4 : ∀ w ∈ u_ws RX4 TX4 12, w ∈ wsX4_isStep := by decide +kernel
def F_X4_isStep (M : Mem) (w : Nat) (p1 : Int32) : Option (Int32) :=
  (if p1 < 0 then some 0 else (if (M w 3) ≤ p1 then some 0 else some 1))
set_option maxHeartbeats 4000000 in
set_option maxRecDepth 100000 in
theorem k_X4_isStep (l : Launch) (dC : Nat → ClassId) (dI : Nat → Nat → Nat) (cI c9 : ClassId) (ad : Nat → Nat) (hI : Inj 100 ad) (M : Mem) (w : Nat) (hwk : wok w) (p1 : Int32) (q : Int32) (h : F_X4_isStep M w p1 = some q) : Met l yX4_isStep wsX4_isStep ({ frames := 0, cells := 0, slots := 0, locals := 0 }) (gP dC dI cI c9 ad M [.ref (ad w), .int p1]) (vp_Si (fun x => x = q)) 0 0 (fun _ => False) := by
  refine Met.ofW (cc := cX4_isStep) (maxL := 2) (ret := (some .boolean)) (by decide) rfl ?_
  intro p e s m args below meth c s₁ B hml hv
  obtain ⟨rfl, hP, hKK, hKw⟩ := hv
  have hx := B.exec
  have hb := B.bytes
  have hr := B.returns
  have hts := atoms_spec (ws := wsX4_isStep) B.pre
  have hown : s.vm.findClass RX4 = some m.cls := findClass_of_methodNamed B.named
  have hlocks := B.notSynchronized
  have hl := lv_entry ([.ref (ad w), .int p1]) (n := 2) (Nat.le_of_ble_eq_true rfl)
  rw [lg_entry_eq]
  generalize (lg_sl ([.ref (ad w), .int p1]) ++ List.replicate (2 - (lg_sl ([.ref (ad w), .int p1])).length) Slot.unset).toArray = ls at hl ⊢
  have hl : lv_has ls 2 [(0, .ref (ad w)), (1, .int p1)] := hl
  unfold F_X4_isStep at h
  refine lv_iload_n hx hb dX4_isStep_0 rfl (lv_at hl 1 rfl) ?_
  refine lv_if_lt (tgt := 16) hx hb dX4_isStep_1 (by decide) (fun c_1 => ?_) (fun c_1 => ?_)
  · rw [if_pos c_1] at h
    refine lv_iconst (v := 0) hx hb dX4_isStep_16 (by decide) ?_
    replace h := Option.some.inj h
    subst h
    exact W.zret (v := 0) (ty := .boolean) hx hb hr (by rfl) (fun t ht hW => ⟨_, rfl, rfl, ht⟩) (fun _ h => by cases h) dX4_isStep_17
  · rw [if_neg c_1] at h
    refine lv_iload_n hx hb dX4_isStep_4 rfl (lv_at hl 1 rfl) ?_
    refine lv_aload_n hx hb dX4_isStep_5 rfl (lv_at hl 0 rfl) ?_
    refine va_get (D := (dC, dI)) (ci := 4) (v := .int (M w 3)) (C := RX4) (T := TX4) (N := 12) hx hb hts jX4_isStep_X4 hown hKw hP w (cw_work (wok.lt hwk) (wok.k hwk)) rfl 3 (by decide) (hts (.fieldLink RX4 36 "LendThreads$Work" "steps" "I") (by decide +kernel)) (fun _ h9 => h9) rfl dX4_isStep_6 ?_
    refine lv_icmp_ge (tgt := 16) hx hb dX4_isStep_9 (by decide) (fun c_2 => ?_) (fun c_2 => ?_)
    · rw [if_pos c_2] at h
      refine lv_iconst (v := 0) hx hb dX4_isStep_16 (by decide) ?_
      replace h := Option.some.inj h
      subst h
      exact W.zret (v := 0) (ty := .boolean) hx hb hr (by rfl) (fun t ht hW => ⟨_, rfl, rfl, ht⟩) (fun _ h => by cases h) dX4_isStep_17
    · rw [if_neg c_2] at h
      refine lv_iconst (v := 1) hx hb dX4_isStep_12 (by decide) ?_
      refine lv_goto (tgt := 17) hx hb dX4_isStep_13 (by decide) ?_
      replace h := Option.some.inj h
      subst h
      exact W.zret (v := 1) (ty := .boolean) hx hb hr (by rfl) (fun t ht hW => ⟨_, rfl, rfl, ht⟩) (fun _ h => by cases h) dX4_isStep_17
theorem jX4_gotAll_X4 : ∀ w ∈ u_ws RX4 TX4 12, w ∈ wsX4_gotAll := by decide +kernel
def F_X4_gotAll (M : Mem) (w : Nat) : Option (Int32) :=
  bi (F_X2_count M (w + 1) (M w 6)) fun q_1 => (if (M w 7) < q_1 then some 0 else some 1)
set_option maxHeartbeats 4000000 in
set_option maxRecDepth 100000 in
theorem k_X4_gotAll (l : Launch) (dC : Nat → ClassId) (dI : Nat → Nat → Nat) (cI c9 : ClassId) (ad : Nat → Nat) (hI : Inj 100 ad) (M : Mem) (w : Nat) (hwk : wok w) (q : Int32) (h : F_X4_gotAll M w = some q) : Met l yX4_gotAll wsX4_gotAll ({ frames := 1, cells := 0, slots := 0, locals := 21 }) (gP dC dI cI c9 ad M [.ref (ad w)]) (vp_Si (fun x => x = q)) 0 0 (fun _ => False) := by
  refine Met.ofW (cc := cX4_gotAll) (maxL := 1) (ret := (some .boolean)) (by decide) rfl ?_
  intro p e s m args below meth c s₁ B hml hv
  obtain ⟨rfl, hP, hKK, hKw⟩ := hv
  have hx := B.exec
  have hb := B.bytes
  have hr := B.returns
  have hts := atoms_spec (ws := wsX4_gotAll) B.pre
  have hown : s.vm.findClass RX4 = some m.cls := findClass_of_methodNamed B.named
  have hlocks := B.notSynchronized
  have hl := lv_entry ([.ref (ad w)]) (n := 1) (Nat.le_of_ble_eq_true rfl)
  rw [lg_entry_eq]
  generalize (lg_sl ([.ref (ad w)]) ++ List.replicate (1 - (lg_sl ([.ref (ad w)])).length) Slot.unset).toArray = ls at hl ⊢
  have hl : lv_has ls 1 [(0, .ref (ad w))] := hl
  unfold F_X4_gotAll at h
  refine lv_aload_n hx hb dX4_gotAll_0 rfl (lv_at hl 0 rfl) ?_
  refine va_get (D := (dC, dI)) (ci := 4) (v := .int (M w 7)) (C := RX4) (T := TX4) (N := 12) hx hb hts jX4_gotAll_X4 hown hKw hP w (cw_work (wok.lt hwk) (wok.k hwk)) rfl 7 (by decide) (hts (.fieldLink RX4 39 "LendThreads$Work" "got" "I") (by decide +kernel)) (fun _ h9 => h9) rfl dX4_gotAll_1 ?_
  refine lv_aload_n hx hb dX4_gotAll_4 rfl (lv_at hl 0 rfl) ?_
  refine va_get (D := (dC, dI)) (ci := 4) (v := .ref (ad (w + 1))) (C := RX4) (T := TX4) (N := 12) hx hb hts jX4_gotAll_X4 hown hKw hP w (cw_work (wok.lt hwk) (wok.k hwk)) rfl 1 (by decide) (hts (.fieldLink RX4 14 "LendThreads$Work" "wanted" "LLendThreads$Rows;") (by decide +kernel)) (fun _ h9 => h9) rfl dX4_gotAll_5 ?_
  refine lv_aload_n hx hb dX4_gotAll_8 rfl (lv_at hl 0 rfl) ?_
  refine va_get (D := (dC, dI)) (ci := 4) (v := .int (M w 6)) (C := RX4) (T := TX4) (N := 12) hx hb hts jX4_gotAll_X4 hown hKw hP w (cw_work (wok.lt hwk) (wok.k hwk)) rfl 6 (by decide) (hts (.fieldLink RX4 42 "LendThreads$Work" "step" "I") (by decide +kernel)) (fun _ h9 => h9) rfl dX4_gotAll_9 ?_
  obtain ⟨q_1, hq_1, h⟩ := bi_some h
  refine vp_callSi (va_Run.run (va_runV (As := [.int (M w 6)]) (rest := [.int (M w 7)]) ⟨hx, hb, hml, hown, hts⟩ (k_X2_count l dC dI cI c9 ad hI M (w + 1) (wok.r1 hwk) (M w 6) q_1 hq_1) (cwV 1 hts gX4_gotAll_X2_count rfl rfl rfl (by decide +kernel) ⟨Nat.le_of_ble_eq_true rfl, Nat.le_of_ble_eq_true rfl⟩) (gP_preV hKK hKw hP (va_recv hKw hP (ci := 2) (q0 := (w + 1)) rfl (cw_rows (wok.r1 hwk).lt (wok.r1 hwk).k0))) rfl rfl hl.1 rfl (lv_room (Nat.le_of_ble_eq_true rfl)) dX4_gotAll_12 ⟨Nat.zero_le _, Nat.zero_le _⟩)) (fun r_2 hr_2 => ?_)
  replace hr_2 := hr_2.symm
  subst hr_2
  refine lv_icmp_lt (tgt := 22) hx hb dX4_gotAll_15 (by decide) (fun c_3 => ?_) (fun c_3 => ?_)
  · rw [if_pos c_3] at h
    refine lv_iconst (v := 0) hx hb dX4_gotAll_22 (by decide) ?_
    replace h := Option.some.inj h
    subst h
    exact W.zret (v := 0) (ty := .boolean) hx hb hr (by rfl) (fun t ht hW => ⟨_, rfl, rfl, ht⟩) (fun _ h => by cases h) dX4_gotAll_23
  · rw [if_neg c_3] at h
    refine lv_iconst (v := 1) hx hb dX4_gotAll_18 (by decide) ?_
    refine lv_goto (tgt := 23) hx hb dX4_gotAll_19 (by decide) ?_
    replace h := Option.some.inj h
    subst h
    exact W.zret (v := 1) (ty := .boolean) hx hb hr (by rfl) (fun t ht hW => ⟨_, rfl, rfl, ht⟩) (fun _ h => by cases h) dX4_gotAll_23
theorem jX4_beginAgain_X4 : ∀ w ∈ u_ws RX4 TX4 12, w ∈ wsX4_beginAgain := by decide +kernel
def F_X4_beginAgain (M : Mem) (w : Nat) : Option (Mem) :=
  bm (up2 M w 5 0) fun M_1 => bm (up2 M_1 w 6 0) fun M_2 => bm (up2 M_2 w 7 0) fun M_3 => bm (up2 M_3 w 4 (-1)) fun M_4 => bm (up2 M_4 w 11 0) fun M_5 => bm (up2 M_5 w 9 ((M_5 w 9) + 1)) fun M_6 => some M_6
set_option maxHeartbeats 4000000 in
set_option maxRecDepth 100000 in
theorem k_X4_beginAgain (l : Launch) (dC : Nat → ClassId) (dI : Nat → Nat → Nat) (cI c9 : ClassId) (ad : Nat → Nat) (hI : Inj 100 ad) (M : Mem) (w : Nat) (hwk : wok w) (q : Mem) (h : F_X4_beginAgain M w = some q) : Met l yX4_beginAgain wsX4_beginAgain ({ frames := 0, cells := 0, slots := 0, locals := 0 }) (gP dC dI cI c9 ad M [.ref (ad w)]) (va_Qv (fun M' => M' = q) (fun M' t => va_P (dC, dI) vwCl (cW cI c9 ad M') t.heap) (Ac 100 ad)) 0 0 (Ac 100 ad) := by
  refine Met.ofW (cc := cX4_beginAgain) (maxL := 1) (ret := none) (by decide) rfl ?_
  intro p e s m args below meth c s₁ B hml hv
  obtain ⟨rfl, hP, hKK, hKw⟩ := hv
  have hx := B.exec
  have hb := B.bytes
  have hr := B.returns
  have hts := atoms_spec (ws := wsX4_beginAgain) B.pre
  have hown : s.vm.findClass RX4 = some m.cls := findClass_of_methodNamed B.named
  have hlocks := B.notSynchronized
  have hD := cwl_D hI (enc cI c9 ad M)
  have hS : va_S (Ac 100 ad) s.heap s.heap [] := va_S.rf
  have hl := lv_entry ([.ref (ad w)]) (n := 1) (Nat.le_of_ble_eq_true rfl)
  rw [lg_entry_eq]
  generalize (lg_sl ([.ref (ad w)]) ++ List.replicate (1 - (lg_sl ([.ref (ad w)])).length) Slot.unset).toArray = ls at hl ⊢
  have hl : lv_has ls 1 [(0, .ref (ad w))] := hl
  unfold F_X4_beginAgain at h
  refine lv_aload_n hx hb dX4_beginAgain_0 rfl (lv_at hl 0 rfl) ?_
  refine lv_iconst (v := 0) hx hb dX4_beginAgain_1 (by decide) ?_
  refine va_put (D := (dC, dI)) (ci := 4) (v := .int 0) (ty := .int) (C := RX4) (T := TX4) (N := 12) hx hb hts jX4_beginAgain_X4 tyX4 tyX4_ok nmX4 hown hKw hP hD hS w (cw_work (wok.lt hwk) (wok.k hwk)) rfl 5 (by decide) (hts (.fieldLink RX4 27 "LendThreads$Work" "state" "I") (by decide +kernel)) (fun _ h9 => h9) rfl (by decide +kernel) rfl rfl (Nat.le_of_ble_eq_true rfl) dX4_beginAgain_2 (fun H locs hP _ hS => ?_)
  have hP : va_P (dC, dI) vwCl (cW cI c9 ad (up2 M w 5 0)) H := by show va_P (dC, dI) vwCl (cwl 100 ad (enc cI c9 ad (up2 M w 5 0))) H; rw [← en_w5 (wok.k hwk), ← cwl_set (wok.lt hwk)]; exact hP
  have hD := cwl_D hI (enc cI c9 ad (up2 M w 5 0))
  generalize up2 M w 5 0 = M_1 at hP hD h
  replace h := bm_e h
  try dsimp only at h
  refine lv_aload_n hx hb dX4_beginAgain_5 rfl (lv_at hl 0 rfl) ?_
  refine lv_iconst (v := 0) hx hb dX4_beginAgain_6 (by decide) ?_
  refine va_put (D := (dC, dI)) (ci := 4) (v := .int 0) (ty := .int) (C := RX4) (T := TX4) (N := 12) hx hb hts jX4_beginAgain_X4 tyX4 tyX4_ok nmX4 hown hKw hP hD hS w (cw_work (wok.lt hwk) (wok.k hwk)) rfl 6 (by decide) (hts (.fieldLink RX4 42 "LendThreads$Work" "step" "I") (by decide +kernel)) (fun _ h9 => h9) rfl (by decide +kernel) rfl rfl (Nat.le_of_ble_eq_true rfl) dX4_beginAgain_7 (fun H locs hP _ hS => ?_)
  have hP : va_P (dC, dI) vwCl (cW cI c9 ad (up2 M_1 w 6 0)) H := by show va_P (dC, dI) vwCl (cwl 100 ad (enc cI c9 ad (up2 M_1 w 6 0))) H; rw [← en_w6 (wok.k hwk), ← cwl_set (wok.lt hwk)]; exact hP
  have hD := cwl_D hI (enc cI c9 ad (up2 M_1 w 6 0))
  generalize up2 M_1 w 6 0 = M_2 at hP hD h
  replace h := bm_e h
  try dsimp only at h
  refine lv_aload_n hx hb dX4_beginAgain_10 rfl (lv_at hl 0 rfl) ?_
  refine lv_iconst (v := 0) hx hb dX4_beginAgain_11 (by decide) ?_
  refine va_put (D := (dC, dI)) (ci := 4) (v := .int 0) (ty := .int) (C := RX4) (T := TX4) (N := 12) hx hb hts jX4_beginAgain_X4 tyX4 tyX4_ok nmX4 hown hKw hP hD hS w (cw_work (wok.lt hwk) (wok.k hwk)) rfl 7 (by decide) (hts (.fieldLink RX4 39 "LendThreads$Work" "got" "I") (by decide +kernel)) (fun _ h9 => h9) rfl (by decide +kernel) rfl rfl (Nat.le_of_ble_eq_true rfl) dX4_beginAgain_12 (fun H locs hP _ hS => ?_)
  have hP : va_P (dC, dI) vwCl (cW cI c9 ad (up2 M_2 w 7 0)) H := by show va_P (dC, dI) vwCl (cwl 100 ad (enc cI c9 ad (up2 M_2 w 7 0))) H; rw [← en_w7 (wok.k hwk), ← cwl_set (wok.lt hwk)]; exact hP
  have hD := cwl_D hI (enc cI c9 ad (up2 M_2 w 7 0))
  generalize up2 M_2 w 7 0 = M_3 at hP hD h
  replace h := bm_e h
  try dsimp only at h
  refine lv_aload_n hx hb dX4_beginAgain_15 rfl (lv_at hl 0 rfl) ?_
  refine lv_iconst (v := (-1)) hx hb dX4_beginAgain_16 (by decide) ?_
  refine va_put (D := (dC, dI)) (ci := 4) (v := .int (-1)) (ty := .int) (C := RX4) (T := TX4) (N := 12) hx hb hts jX4_beginAgain_X4 tyX4 tyX4_ok nmX4 hown hKw hP hD hS w (cw_work (wok.lt hwk) (wok.k hwk)) rfl 4 (by decide) (hts (.fieldLink RX4 23 "LendThreads$Work" "failsAt" "I") (by decide +kernel)) (fun _ h9 => h9) rfl (by decide +kernel) rfl rfl (Nat.le_of_ble_eq_true rfl) dX4_beginAgain_17 (fun H locs hP _ hS => ?_)
  have hP : va_P (dC, dI) vwCl (cW cI c9 ad (up2 M_3 w 4 (-1))) H := by show va_P (dC, dI) vwCl (cwl 100 ad (enc cI c9 ad (up2 M_3 w 4 (-1)))) H; rw [← en_w4 (wok.k hwk), ← cwl_set (wok.lt hwk)]; exact hP
  have hD := cwl_D hI (enc cI c9 ad (up2 M_3 w 4 (-1)))
  generalize up2 M_3 w 4 (-1) = M_4 at hP hD h
  replace h := bm_e h
  try dsimp only at h
  refine lv_aload_n hx hb dX4_beginAgain_20 rfl (lv_at hl 0 rfl) ?_
  refine lv_iconst (v := 0) hx hb dX4_beginAgain_21 (by decide) ?_
  refine va_put (D := (dC, dI)) (ci := 4) (v := .int 0) (ty := .int) (C := RX4) (T := TX4) (N := 12) hx hb hts jX4_beginAgain_X4 tyX4 tyX4_ok nmX4 hown hKw hP hD hS w (cw_work (wok.lt hwk) (wok.k hwk)) rfl 11 (by decide) (hts (.fieldLink RX4 30 "LendThreads$Work" "latest" "I") (by decide +kernel)) (fun _ h9 => h9) rfl (by decide +kernel) rfl rfl (Nat.le_of_ble_eq_true rfl) dX4_beginAgain_22 (fun H locs hP _ hS => ?_)
  have hP : va_P (dC, dI) vwCl (cW cI c9 ad (up2 M_4 w 11 0)) H := by show va_P (dC, dI) vwCl (cwl 100 ad (enc cI c9 ad (up2 M_4 w 11 0))) H; rw [← en_w11 (wok.k hwk), ← cwl_set (wok.lt hwk)]; exact hP
  have hD := cwl_D hI (enc cI c9 ad (up2 M_4 w 11 0))
  generalize up2 M_4 w 11 0 = M_5 at hP hD h
  replace h := bm_e h
  try dsimp only at h
  refine lv_aload_n hx hb dX4_beginAgain_25 rfl (lv_at hl 0 rfl) ?_
  refine lv_dup hx hb dX4_beginAgain_26 rfl ?_
  refine va_get (D := (dC, dI)) (ci := 4) (v := .int (M_5 w 9)) (C := RX4) (T := TX4) (N := 12) hx hb hts jX4_beginAgain_X4 hown hKw hP w (cw_work (wok.lt hwk) (wok.k hwk)) rfl 9 (by decide) (hts (.fieldLink RX4 49 "LendThreads$Work" "begunAgain" "I") (by decide +kernel)) (fun _ h9 => h9) rfl dX4_beginAgain_27 ?_
  refine lv_iconst (v := 1) hx hb dX4_beginAgain_30 (by decide) ?_
  refine lv_iadd hx hb dX4_beginAgain_31 ?_
  refine va_put (D := (dC, dI)) (ci := 4) (v := .int ((M_5 w 9) + 1)) (ty := .int) (C := RX4) (T := TX4) (N := 12) hx hb hts jX4_beginAgain_X4 tyX4 tyX4_ok nmX4 hown hKw hP hD hS w (cw_work (wok.lt hwk) (wok.k hwk)) rfl 9 (by decide) (hts (.fieldLink RX4 49 "LendThreads$Work" "begunAgain" "I") (by decide +kernel)) (fun _ h9 => h9) rfl (by decide +kernel) rfl rfl (Nat.le_of_ble_eq_true rfl) dX4_beginAgain_32 (fun H locs hP _ hS => ?_)
  have hP : va_P (dC, dI) vwCl (cW cI c9 ad (up2 M_5 w 9 ((M_5 w 9) + 1))) H := by show va_P (dC, dI) vwCl (cwl 100 ad (enc cI c9 ad (up2 M_5 w 9 ((M_5 w 9) + 1)))) H; rw [← en_w9 (wok.k hwk), ← cwl_set (wok.lt hwk)]; exact hP
  have hD := cwl_D hI (enc cI c9 ad (up2 M_5 w 9 ((M_5 w 9) + 1)))
  generalize up2 M_5 w 9 ((M_5 w 9) + 1) = M_6 at hP hD h
  replace h := bm_e h
  try dsimp only at h
  replace h := Option.some.inj h
  subst h
  exact W.vret hx hb hr (fun t ht hW => ⟨⟨_, rfl, rfl, (show va_P (dC, dI) vwCl (cW cI c9 ad M_6) t.heap by rw [ht]; exact hP)⟩, hS.F ht⟩) hS.2.2 dX4_beginAgain_35
theorem jX1_isWay_X1 : ∀ w ∈ u_ws RX1 TX1 3, w ∈ wsX1_isWay := by decide +kernel
def F_X1_isWay (M : Mem) (p1 : Int32) : Option (Int32) :=
  (if p1 < 0 then some 0 else (if nI (ln 10) ≤ p1 then some 0 else (if nI (ln 11) ≤ p1 then some 0 else some 1)))
set_option maxHeartbeats 4000000 in
set_option maxRecDepth 100000 in
theorem k_X1_isWay (l : Launch) (dC : Nat → ClassId) (dI : Nat → Nat → Nat) (cI c9 : ClassId) (ad : Nat → Nat) (hI : Inj 100 ad) (M : Mem) (p1 : Int32) (q : Int32) (h : F_X1_isWay M p1 = some q) : Met l yX1_isWay wsX1_isWay ({ frames := 0, cells := 0, slots := 0, locals := 0 }) (gP dC dI cI c9 ad M [.ref (ad 9), .int p1]) (vp_Si (fun x => x = q)) 0 0 (fun _ => False) := by
  refine Met.ofW (cc := cX1_isWay) (maxL := 2) (ret := (some .boolean)) (by decide) rfl ?_
  intro p e s m args below meth c s₁ B hml hv
  obtain ⟨rfl, hP, hKK, hKw⟩ := hv
  have hx := B.exec
  have hb := B.bytes
  have hr := B.returns
  have hts := atoms_spec (ws := wsX1_isWay) B.pre
  have hown : s.vm.findClass RX1 = some m.cls := findClass_of_methodNamed B.named
  have hlocks := B.notSynchronized
  have hl := lv_entry ([.ref (ad 9), .int p1]) (n := 2) (Nat.le_of_ble_eq_true rfl)
  rw [lg_entry_eq]
  generalize (lg_sl ([.ref (ad 9), .int p1]) ++ List.replicate (2 - (lg_sl ([.ref (ad 9), .int p1])).length) Slot.unset).toArray = ls at hl ⊢
  have hl : lv_has ls 2 [(0, .ref (ad 9)), (1, .int p1)] := hl
  unfold F_X1_isWay at h
  refine lv_iload_n hx hb dX1_isWay_0 rfl (lv_at hl 1 rfl) ?_
  refine lv_if_lt (tgt := 26) hx hb dX1_isWay_1 (by decide) (fun c_1 => ?_) (fun c_1 => ?_)
  · rw [if_pos c_1] at h
    refine lv_iconst (v := 0) hx hb dX1_isWay_26 (by decide) ?_
    replace h := Option.some.inj h
    subst h
    exact W.zret (v := 0) (ty := .boolean) hx hb hr (by rfl) (fun t ht hW => ⟨_, rfl, rfl, ht⟩) (fun _ h => by cases h) dX1_isWay_27
  · rw [if_neg c_1] at h
    refine lv_iload_n hx hb dX1_isWay_4 rfl (lv_at hl 1 rfl) ?_
    refine lv_aload_n hx hb dX1_isWay_5 rfl (lv_at hl 0 rfl) ?_
    refine va_get (D := (dC, dI)) (ci := 1) (v := .ref (ad 10)) (C := RX1) (T := TX1) (N := 3) hx hb hts jX1_isWay_X1 hown hKw hP 9 cw_post rfl 0 (by decide) (hts (.fieldLink RX1 9 "LendThreads$Post" "there" "[I") (by decide +kernel)) (fun _ h9 => h9) rfl dX1_isWay_6 ?_
    refine va_alen (v := nI (ln 10)) hx hb hKw hP 10 0 (cw_arr (k := 10) (by decide) (by decide)) rfl rfl dX1_isWay_9 ?_
    refine lv_icmp_ge (tgt := 26) hx hb dX1_isWay_10 (by decide) (fun c_2 => ?_) (fun c_2 => ?_)
    · rw [if_pos c_2] at h
      refine lv_iconst (v := 0) hx hb dX1_isWay_26 (by decide) ?_
      replace h := Option.some.inj h
      subst h
      exact W.zret (v := 0) (ty := .boolean) hx hb hr (by rfl) (fun t ht hW => ⟨_, rfl, rfl, ht⟩) (fun _ h => by cases h) dX1_isWay_27
    · rw [if_neg c_2] at h
      refine lv_iload_n hx hb dX1_isWay_13 rfl (lv_at hl 1 rfl) ?_
      refine lv_aload_n hx hb dX1_isWay_14 rfl (lv_at hl 0 rfl) ?_
      refine va_get (D := (dC, dI)) (ci := 1) (v := .ref (ad 11)) (C := RX1) (T := TX1) (N := 3) hx hb hts jX1_isWay_X1 hown hKw hP 9 cw_post rfl 1 (by decide) (hts (.fieldLink RX1 15 "LendThreads$Post" "lost" "[I") (by decide +kernel)) (fun _ h9 => h9) rfl dX1_isWay_15 ?_
      refine va_alen (v := nI (ln 11)) hx hb hKw hP 11 0 (cw_arr (k := 11) (by decide) (by decide)) rfl rfl dX1_isWay_18 ?_
      refine lv_icmp_ge (tgt := 26) hx hb dX1_isWay_19 (by decide) (fun c_3 => ?_) (fun c_3 => ?_)
      · rw [if_pos c_3] at h
        refine lv_iconst (v := 0) hx hb dX1_isWay_26 (by decide) ?_
        replace h := Option.some.inj h
        subst h
        exact W.zret (v := 0) (ty := .boolean) hx hb hr (by rfl) (fun t ht hW => ⟨_, rfl, rfl, ht⟩) (fun _ h => by cases h) dX1_isWay_27
      · rw [if_neg c_3] at h
        refine lv_iconst (v := 1) hx hb dX1_isWay_22 (by decide) ?_
        refine lv_goto (tgt := 27) hx hb dX1_isWay_23 (by decide) ?_
        replace h := Option.some.inj h
        subst h
        exact W.zret (v := 1) (ty := .boolean) hx hb hr (by rfl) (fun t ht hW => ⟨_, rfl, rfl, ht⟩) (fun _ h => by cases h) dX1_isWay_27
theorem jX1_countThere_X1 : ∀ w ∈ u_ws RX1 TX1 3, w ∈ wsX1_countThere := by decide +kernel
def F_X1_countThere (M : Mem) (p1 : Int32) : Option (Int32) :=
  bi (F_X1_isWay M p1) fun q_1 => (if q_1 = 0 then some 0 else gd (inb p1 (ln 10)) <| some (M 10 p1.toNatClampNeg))
set_option maxHeartbeats 4000000 in
set_option maxRecDepth 100000 in
theorem k_X1_countThere (l : Launch) (dC : Nat → ClassId) (dI : Nat → Nat → Nat) (cI c9 : ClassId) (ad : Nat → Nat) (hI : Inj 100 ad) (M : Mem) (p1 : Int32) (q : Int32) (h : F_X1_countThere M p1 = some q) : Met l yX1_countThere wsX1_countThere ({ frames := 1, cells := 0, slots := 0, locals := 21 }) (gP dC dI cI c9 ad M [.ref (ad 9), .int p1]) (vp_Si (fun x => x = q)) 0 0 (fun _ => False) := by
  refine Met.ofW (cc := cX1_countThere) (maxL := 2) (ret := (some .int)) (by decide) rfl ?_
  intro p e s m args below meth c s₁ B hml hv
  obtain ⟨rfl, hP, hKK, hKw⟩ := hv
  have hx := B.exec
  have hb := B.bytes
  have hr := B.returns
  have hts := atoms_spec (ws := wsX1_countThere) B.pre
  have hown : s.vm.findClass RX1 = some m.cls := findClass_of_methodNamed B.named
  have hlocks := B.notSynchronized
  have hl := lv_entry ([.ref (ad 9), .int p1]) (n := 2) (Nat.le_of_ble_eq_true rfl)
  rw [lg_entry_eq]
  generalize (lg_sl ([.ref (ad 9), .int p1]) ++ List.replicate (2 - (lg_sl ([.ref (ad 9), .int p1])).length) Slot.unset).toArray = ls at hl ⊢
  have hl : lv_has ls 2 [(0, .ref (ad 9)), (1, .int p1)] := hl
  unfold F_X1_countThere at h
  refine lv_aload_n hx hb dX1_countThere_0 rfl (lv_at hl 0 rfl) ?_
  refine lv_iload_n hx hb dX1_countThere_1 rfl (lv_at hl 1 rfl) ?_
  obtain ⟨q_1, hq_1, h⟩ := bi_some h
  refine vp_callSi (va_Run.run (va_runV (As := [.int p1]) (rest := []) ⟨hx, hb, hml, hown, hts⟩ (k_X1_isWay l dC dI cI c9 ad hI M p1 q_1 hq_1) (cwV 1 hts gX1_countThere_X1_isWay rfl rfl rfl (by decide +kernel) ⟨Nat.le_of_ble_eq_true rfl, Nat.le_of_ble_eq_true rfl⟩) (gP_preV hKK hKw hP (va_recv hKw hP (ci := 1) (q0 := 9) rfl cw_post)) rfl rfl hl.1 rfl (lv_room (Nat.le_of_ble_eq_true rfl)) dX1_countThere_2 ⟨Nat.zero_le _, Nat.zero_le _⟩)) (fun r_2 hr_2 => ?_)
  replace hr_2 := hr_2.symm
  subst hr_2
  refine lv_if_eq (tgt := 17) hx hb dX1_countThere_5 (by decide) (fun c_3 => ?_) (fun c_3 => ?_)
  · rw [if_pos c_3] at h
    refine lv_iconst (v := 0) hx hb dX1_countThere_17 (by decide) ?_
    replace h := Option.some.inj h
    subst h
    exact W.iret (v := 0) hx hb hr (fun t ht hW => ⟨_, rfl, rfl, ht⟩) (fun _ h => by cases h) dX1_countThere_18
  · rw [if_neg c_3] at h
    refine lv_aload_n hx hb dX1_countThere_8 rfl (lv_at hl 0 rfl) ?_
    refine va_get (D := (dC, dI)) (ci := 1) (v := .ref (ad 10)) (C := RX1) (T := TX1) (N := 3) hx hb hts jX1_countThere_X1 hown hKw hP 9 cw_post rfl 0 (by decide) (hts (.fieldLink RX1 9 "LendThreads$Post" "there" "[I") (by decide +kernel)) (fun _ h9 => h9) rfl dX1_countThere_9 ?_
    refine lv_iload_n hx hb dX1_countThere_12 rfl (lv_at hl 1 rfl) ?_
    obtain ⟨g_4, h⟩ := gd_some h
    refine va_iald hx hb hKw hP 10 0 (cw_arr (k := 10) (by decide) (by decide)) rfl (inb_in g_4) dX1_countThere_13 ?_
    refine lv_goto (tgt := 18) hx hb dX1_countThere_14 (by decide) ?_
    replace h := Option.some.inj h
    subst h
    exact W.iret (v := (M 10 p1.toNatClampNeg)) hx hb hr (fun t ht hW => ⟨_, rfl, rfl, ht⟩) (fun _ h => by cases h) dX1_countThere_18
theorem jX1_send_X1 : ∀ w ∈ u_ws RX1 TX1 3, w ∈ wsX1_send := by decide +kernel
def F_X1_send (M : Mem) (p1 : Int32) : Option (Mem) :=
  bi (F_X1_isWay M p1) fun q_1 => (if q_1 = 0 then some M else (if (M 9 2) ≤ 0 then gd (inb p1 (ln 10)) <| gd (inb p1 (ln 10)) <| bm (up2 M 10 p1.toNatClampNeg ((M 10 p1.toNatClampNeg) + 1)) fun M_7 => some M_7 else bm (up2 M 9 2 ((M 9 2) - 1)) fun M_8 => gd (inb p1 (ln 11)) <| gd (inb p1 (ln 11)) <| bm (up2 M_8 11 p1.toNatClampNeg ((M_8 11 p1.toNatClampNeg) + 1)) fun M_11 => some M_11))
set_option maxHeartbeats 4000000 in
set_option maxRecDepth 100000 in
theorem k_X1_send (l : Launch) (dC : Nat → ClassId) (dI : Nat → Nat → Nat) (cI c9 : ClassId) (ad : Nat → Nat) (hI : Inj 100 ad) (M : Mem) (p1 : Int32) (q : Mem) (h : F_X1_send M p1 = some q) : Met l yX1_send wsX1_send ({ frames := 1, cells := 0, slots := 0, locals := 21 }) (gP dC dI cI c9 ad M [.ref (ad 9), .int p1]) (va_Qv (fun M' => M' = q) (fun M' t => va_P (dC, dI) vwCl (cW cI c9 ad M') t.heap) (Ac 100 ad)) 0 0 (Ac 100 ad) := by
  refine Met.ofW (cc := cX1_send) (maxL := 2) (ret := none) (by decide) rfl ?_
  intro p e s m args below meth c s₁ B hml hv
  obtain ⟨rfl, hP, hKK, hKw⟩ := hv
  have hx := B.exec
  have hb := B.bytes
  have hr := B.returns
  have hts := atoms_spec (ws := wsX1_send) B.pre
  have hown : s.vm.findClass RX1 = some m.cls := findClass_of_methodNamed B.named
  have hlocks := B.notSynchronized
  have hD := cwl_D hI (enc cI c9 ad M)
  have hS : va_S (Ac 100 ad) s.heap s.heap [] := va_S.rf
  have hl := lv_entry ([.ref (ad 9), .int p1]) (n := 2) (Nat.le_of_ble_eq_true rfl)
  rw [lg_entry_eq]
  generalize (lg_sl ([.ref (ad 9), .int p1]) ++ List.replicate (2 - (lg_sl ([.ref (ad 9), .int p1])).length) Slot.unset).toArray = ls at hl ⊢
  have hl : lv_has ls 2 [(0, .ref (ad 9)), (1, .int p1)] := hl
  unfold F_X1_send at h
  refine lv_aload_n hx hb dX1_send_0 rfl (lv_at hl 0 rfl) ?_
  refine lv_iload_n hx hb dX1_send_1 rfl (lv_at hl 1 rfl) ?_
  obtain ⟨q_1, hq_1, h⟩ := bi_some h
  refine vp_callSi (va_Run.run (va_runV (As := [.int p1]) (rest := []) ⟨hx, hb, hml, hown, hts⟩ (k_X1_isWay l dC dI cI c9 ad hI M p1 q_1 hq_1) (cwV 1 hts gX1_send_X1_isWay rfl rfl rfl (by decide +kernel) ⟨Nat.le_of_ble_eq_true rfl, Nat.le_of_ble_eq_true rfl⟩) (gP_preV hKK hKw hP (va_recv hKw hP (ci := 1) (q0 := 9) rfl cw_post)) rfl rfl hl.1 rfl (lv_room (Nat.le_of_ble_eq_true rfl)) dX1_send_2 ⟨Nat.zero_le _, Nat.zero_le _⟩)) (fun r_2 hr_2 => ?_)
  replace hr_2 := hr_2.symm
  subst hr_2
  refine lv_if_ne (tgt := 9) hx hb dX1_send_5 (by decide) (fun c_3 => ?_) (fun c_3 => ?_)
  · rw [if_neg c_3] at h
    refine lv_aload_n hx hb dX1_send_9 rfl (lv_at hl 0 rfl) ?_
    refine va_get (D := (dC, dI)) (ci := 1) (v := .int (M 9 2)) (C := RX1) (T := TX1) (N := 3) hx hb hts jX1_send_X1 hown hKw hP 9 cw_post rfl 2 (by decide) (hts (.fieldLink RX1 22 "LendThreads$Post" "toLose" "I") (by decide +kernel)) (fun _ h9 => h9) rfl dX1_send_10 ?_
    refine lv_if_le (tgt := 39) hx hb dX1_send_13 (by decide) (fun c_4 => ?_) (fun c_4 => ?_)
    · rw [if_pos c_4] at h
      refine lv_aload_n hx hb dX1_send_39 rfl (lv_at hl 0 rfl) ?_
      refine va_get (D := (dC, dI)) (ci := 1) (v := .ref (ad 10)) (C := RX1) (T := TX1) (N := 3) hx hb hts jX1_send_X1 hown hKw hP 9 cw_post rfl 0 (by decide) (hts (.fieldLink RX1 9 "LendThreads$Post" "there" "[I") (by decide +kernel)) (fun _ h9 => h9) rfl dX1_send_40 ?_
      refine lv_iload_n hx hb dX1_send_43 rfl (lv_at hl 1 rfl) ?_
      refine lv_dup2_11 hx hb dX1_send_44 rfl rfl ?_
      obtain ⟨g_5, h⟩ := gd_some h
      refine va_iald hx hb hKw hP 10 0 (cw_arr (k := 10) (by decide) (by decide)) rfl (inb_in g_5) dX1_send_45 ?_
      refine lv_iconst (v := 1) hx hb dX1_send_46 (by decide) ?_
      refine lv_iadd hx hb dX1_send_47 ?_
      obtain ⟨g_6, h⟩ := gd_some h
      refine va_iast hx hb hKw hP hD hS 10 0 (cw_arr (k := 10) (by decide) (by decide)) rfl (inb_in g_6) dX1_send_48 (fun H locs hP _ hS => ?_)
      have hP : va_P (dC, dI) vwCl (cW cI c9 ad (up2 M 10 p1.toNatClampNeg ((M 10 p1.toNatClampNeg) + 1))) H := by show va_P (dC, dI) vwCl (cwl 100 ad (enc cI c9 ad (up2 M 10 p1.toNatClampNeg ((M 10 p1.toNatClampNeg) + 1)))) H; unfold up2; rw [← en_arr (k := 10) (by decide), ← cwl_set (by decide)]; exact hP
      have hD := cwl_D hI (enc cI c9 ad (up2 M 10 p1.toNatClampNeg ((M 10 p1.toNatClampNeg) + 1)))
      generalize up2 M 10 p1.toNatClampNeg ((M 10 p1.toNatClampNeg) + 1) = M_7 at hP hD h
      replace h := bm_e h
      try dsimp only at h
      replace h := Option.some.inj h
      subst h
      exact W.vret hx hb hr (fun t ht hW => ⟨⟨_, rfl, rfl, (show va_P (dC, dI) vwCl (cW cI c9 ad M_7) t.heap by rw [ht]; exact hP)⟩, hS.F ht⟩) hS.2.2 dX1_send_49
    · rw [if_neg c_4] at h
      refine lv_aload_n hx hb dX1_send_16 rfl (lv_at hl 0 rfl) ?_
      refine lv_dup hx hb dX1_send_17 rfl ?_
      refine va_get (D := (dC, dI)) (ci := 1) (v := .int (M 9 2)) (C := RX1) (T := TX1) (N := 3) hx hb hts jX1_send_X1 hown hKw hP 9 cw_post rfl 2 (by decide) (hts (.fieldLink RX1 22 "LendThreads$Post" "toLose" "I") (by decide +kernel)) (fun _ h9 => h9) rfl dX1_send_18 ?_
      refine lv_iconst (v := 1) hx hb dX1_send_21 (by decide) ?_
      refine lv_isub hx hb dX1_send_22 ?_
      refine va_put (D := (dC, dI)) (ci := 1) (v := .int ((M 9 2) - 1)) (ty := .int) (C := RX1) (T := TX1) (N := 3) hx hb hts jX1_send_X1 tyX1 tyX1_ok nmX1 hown hKw hP hD hS 9 cw_post rfl 2 (by decide) (hts (.fieldLink RX1 22 "LendThreads$Post" "toLose" "I") (by decide +kernel)) (fun _ h9 => h9) rfl (by decide +kernel) rfl rfl (Nat.le_of_ble_eq_true rfl) dX1_send_23 (fun H locs hP _ hS => ?_)
      have hP : va_P (dC, dI) vwCl (cW cI c9 ad (up2 M 9 2 ((M 9 2) - 1))) H := by show va_P (dC, dI) vwCl (cwl 100 ad (enc cI c9 ad (up2 M 9 2 ((M 9 2) - 1)))) H; rw [← en_p9, ← cwl_set (by decide)]; exact hP
      have hD := cwl_D hI (enc cI c9 ad (up2 M 9 2 ((M 9 2) - 1)))
      generalize up2 M 9 2 ((M 9 2) - 1) = M_8 at hP hD h
      replace h := bm_e h
      try dsimp only at h
      refine lv_aload_n hx hb dX1_send_26 rfl (lv_at hl 0 rfl) ?_
      refine va_get (D := (dC, dI)) (ci := 1) (v := .ref (ad 11)) (C := RX1) (T := TX1) (N := 3) hx hb hts jX1_send_X1 hown hKw hP 9 cw_post rfl 1 (by decide) (hts (.fieldLink RX1 15 "LendThreads$Post" "lost" "[I") (by decide +kernel)) (fun _ h9 => h9) rfl dX1_send_27 ?_
      refine lv_iload_n hx hb dX1_send_30 rfl (lv_at hl 1 rfl) ?_
      refine lv_dup2_11 hx hb dX1_send_31 rfl rfl ?_
      obtain ⟨g_9, h⟩ := gd_some h
      refine va_iald hx hb hKw hP 11 0 (cw_arr (k := 11) (by decide) (by decide)) rfl (inb_in g_9) dX1_send_32 ?_
      refine lv_iconst (v := 1) hx hb dX1_send_33 (by decide) ?_
      refine lv_iadd hx hb dX1_send_34 ?_
      obtain ⟨g_10, h⟩ := gd_some h
      refine va_iast hx hb hKw hP hD hS 11 0 (cw_arr (k := 11) (by decide) (by decide)) rfl (inb_in g_10) dX1_send_35 (fun H locs hP _ hS => ?_)
      have hP : va_P (dC, dI) vwCl (cW cI c9 ad (up2 M_8 11 p1.toNatClampNeg ((M_8 11 p1.toNatClampNeg) + 1))) H := by show va_P (dC, dI) vwCl (cwl 100 ad (enc cI c9 ad (up2 M_8 11 p1.toNatClampNeg ((M_8 11 p1.toNatClampNeg) + 1)))) H; unfold up2; rw [← en_arr (k := 11) (by decide), ← cwl_set (by decide)]; exact hP
      have hD := cwl_D hI (enc cI c9 ad (up2 M_8 11 p1.toNatClampNeg ((M_8 11 p1.toNatClampNeg) + 1)))
      generalize up2 M_8 11 p1.toNatClampNeg ((M_8 11 p1.toNatClampNeg) + 1) = M_11 at hP hD h
      replace h := bm_e h
      try dsimp only at h
      refine lv_goto (tgt := 49) hx hb dX1_send_36 (by decide) ?_
      replace h := Option.some.inj h
      subst h
      exact W.vret hx hb hr (fun t ht hW => ⟨⟨_, rfl, rfl, (show va_P (dC, dI) vwCl (cW cI c9 ad M_11) t.heap by rw [ht]; exact hP)⟩, hS.F ht⟩) hS.2.2 dX1_send_49
  · rw [if_pos c_3] at h
    replace h := Option.some.inj h
    subst h
    exact W.vret hx hb hr (fun t ht hW => ⟨⟨_, rfl, rfl, (show va_P (dC, dI) vwCl (cW cI c9 ad M) t.heap by rw [ht]; exact hP)⟩, hS.F ht⟩) hS.2.2 dX1_send_8
theorem jX1_take_X1 : ∀ w ∈ u_ws RX1 TX1 3, w ∈ wsX1_take := by decide +kernel
def F_X1_take (M : Mem) (p1 : Int32) : Option (Int32 × Mem) :=
  bi (F_X1_isWay M p1) fun q_1 => (if q_1 = 0 then some (0, M) else gd (inb p1 (ln 10)) <| (if 0 < (M 10 p1.toNatClampNeg) then gd (inb p1 (ln 10)) <| gd (inb p1 (ln 10)) <| bm (up2 M 10 p1.toNatClampNeg ((M 10 p1.toNatClampNeg) - 1)) fun M_8 => some (1, M_8) else some (0, M)))
set_option maxHeartbeats 4000000 in
set_option maxRecDepth 100000 in
theorem k_X1_take (l : Launch) (dC : Nat → ClassId) (dI : Nat → Nat → Nat) (cI c9 : ClassId) (ad : Nat → Nat) (hI : Inj 100 ad) (M : Mem) (p1 : Int32) (q : Int32 × Mem) (h : F_X1_take M p1 = some q) : Met l yX1_take wsX1_take ({ frames := 1, cells := 0, slots := 0, locals := 21 }) (gP dC dI cI c9 ad M [.ref (ad 9), .int p1]) (va_Qi (fun x M' => x = q.1 ∧ M' = q.2) (fun M' t => va_P (dC, dI) vwCl (cW cI c9 ad M') t.heap) (Ac 100 ad)) 0 0 (Ac 100 ad) := by
  refine Met.ofW (cc := cX1_take) (maxL := 2) (ret := (some .boolean)) (by decide) rfl ?_
  intro p e s m args below meth c s₁ B hml hv
  obtain ⟨rfl, hP, hKK, hKw⟩ := hv
  have hx := B.exec
  have hb := B.bytes
  have hr := B.returns
  have hts := atoms_spec (ws := wsX1_take) B.pre
  have hown : s.vm.findClass RX1 = some m.cls := findClass_of_methodNamed B.named
  have hlocks := B.notSynchronized
  have hD := cwl_D hI (enc cI c9 ad M)
  have hS : va_S (Ac 100 ad) s.heap s.heap [] := va_S.rf
  have hl := lv_entry ([.ref (ad 9), .int p1]) (n := 2) (Nat.le_of_ble_eq_true rfl)
  rw [lg_entry_eq]
  generalize (lg_sl ([.ref (ad 9), .int p1]) ++ List.replicate (2 - (lg_sl ([.ref (ad 9), .int p1])).length) Slot.unset).toArray = ls at hl ⊢
  have hl : lv_has ls 2 [(0, .ref (ad 9)), (1, .int p1)] := hl
  unfold F_X1_take at h
  refine lv_aload_n hx hb dX1_take_0 rfl (lv_at hl 0 rfl) ?_
  refine lv_iload_n hx hb dX1_take_1 rfl (lv_at hl 1 rfl) ?_
  obtain ⟨q_1, hq_1, h⟩ := bi_some h
  refine vp_callSi (va_Run.run (va_runV (As := [.int p1]) (rest := []) ⟨hx, hb, hml, hown, hts⟩ (k_X1_isWay l dC dI cI c9 ad hI M p1 q_1 hq_1) (cwV 1 hts gX1_take_X1_isWay rfl rfl rfl (by decide +kernel) ⟨Nat.le_of_ble_eq_true rfl, Nat.le_of_ble_eq_true rfl⟩) (gP_preV hKK hKw hP (va_recv hKw hP (ci := 1) (q0 := 9) rfl cw_post)) rfl rfl hl.1 rfl (lv_room (Nat.le_of_ble_eq_true rfl)) dX1_take_2 ⟨Nat.zero_le _, Nat.zero_le _⟩)) (fun r_2 hr_2 => ?_)
  replace hr_2 := hr_2.symm
  subst hr_2
  refine lv_if_eq (tgt := 17) hx hb dX1_take_5 (by decide) (fun c_3 => ?_) (fun c_3 => ?_)
  · rw [if_pos c_3] at h
    refine lv_iconst (v := 0) hx hb dX1_take_17 (by decide) ?_
    replace h := Option.some.inj h
    subst h
    exact W.zret (v := 0) (ty := .boolean) hx hb hr (by rfl) (fun t ht hW => ⟨⟨_, _, rfl, ⟨rfl, rfl⟩, (show va_P (dC, dI) vwCl (cW cI c9 ad M) t.heap by rw [ht]; exact hP)⟩, hS.F ht⟩) hS.2.2 dX1_take_18
  · rw [if_neg c_3] at h
    refine lv_aload_n hx hb dX1_take_8 rfl (lv_at hl 0 rfl) ?_
    refine va_get (D := (dC, dI)) (ci := 1) (v := .ref (ad 10)) (C := RX1) (T := TX1) (N := 3) hx hb hts jX1_take_X1 hown hKw hP 9 cw_post rfl 0 (by decide) (hts (.fieldLink RX1 9 "LendThreads$Post" "there" "[I") (by decide +kernel)) (fun _ h9 => h9) rfl dX1_take_9 ?_
    refine lv_iload_n hx hb dX1_take_12 rfl (lv_at hl 1 rfl) ?_
    obtain ⟨g_4, h⟩ := gd_some h
    refine va_iald hx hb hKw hP 10 0 (cw_arr (k := 10) (by decide) (by decide)) rfl (inb_in g_4) dX1_take_13 ?_
    refine lv_if_gt (tgt := 19) hx hb dX1_take_14 (by decide) (fun c_5 => ?_) (fun c_5 => ?_)
    · rw [if_pos c_5] at h
      refine lv_aload_n hx hb dX1_take_19 rfl (lv_at hl 0 rfl) ?_
      refine va_get (D := (dC, dI)) (ci := 1) (v := .ref (ad 10)) (C := RX1) (T := TX1) (N := 3) hx hb hts jX1_take_X1 hown hKw hP 9 cw_post rfl 0 (by decide) (hts (.fieldLink RX1 9 "LendThreads$Post" "there" "[I") (by decide +kernel)) (fun _ h9 => h9) rfl dX1_take_20 ?_
      refine lv_iload_n hx hb dX1_take_23 rfl (lv_at hl 1 rfl) ?_
      refine lv_dup2_11 hx hb dX1_take_24 rfl rfl ?_
      obtain ⟨g_6, h⟩ := gd_some h
      refine va_iald hx hb hKw hP 10 0 (cw_arr (k := 10) (by decide) (by decide)) rfl (inb_in g_6) dX1_take_25 ?_
      refine lv_iconst (v := 1) hx hb dX1_take_26 (by decide) ?_
      refine lv_isub hx hb dX1_take_27 ?_
      obtain ⟨g_7, h⟩ := gd_some h
      refine va_iast hx hb hKw hP hD hS 10 0 (cw_arr (k := 10) (by decide) (by decide)) rfl (inb_in g_7) dX1_take_28 (fun H locs hP _ hS => ?_)
      have hP : va_P (dC, dI) vwCl (cW cI c9 ad (up2 M 10 p1.toNatClampNeg ((M 10 p1.toNatClampNeg) - 1))) H := by show va_P (dC, dI) vwCl (cwl 100 ad (enc cI c9 ad (up2 M 10 p1.toNatClampNeg ((M 10 p1.toNatClampNeg) - 1)))) H; unfold up2; rw [← en_arr (k := 10) (by decide), ← cwl_set (by decide)]; exact hP
      have hD := cwl_D hI (enc cI c9 ad (up2 M 10 p1.toNatClampNeg ((M 10 p1.toNatClampNeg) - 1)))
      generalize up2 M 10 p1.toNatClampNeg ((M 10 p1.toNatClampNeg) - 1) = M_8 at hP hD h
      replace h := bm_e h
      try dsimp only at h
      refine lv_iconst (v := 1) hx hb dX1_take_29 (by decide) ?_
      replace h := Option.some.inj h
      subst h
      exact W.zret (v := 1) (ty := .boolean) hx hb hr (by rfl) (fun t ht hW => ⟨⟨_, _, rfl, ⟨rfl, rfl⟩, (show va_P (dC, dI) vwCl (cW cI c9 ad M_8) t.heap by rw [ht]; exact hP)⟩, hS.F ht⟩) hS.2.2 dX1_take_30
    · rw [if_neg c_5] at h
      refine lv_iconst (v := 0) hx hb dX1_take_17 (by decide) ?_
      replace h := Option.some.inj h
      subst h
      exact W.zret (v := 0) (ty := .boolean) hx hb hr (by rfl) (fun t ht hW => ⟨⟨_, _, rfl, ⟨rfl, rfl⟩, (show va_P (dC, dI) vwCl (cW cI c9 ad M) t.heap by rw [ht]; exact hP)⟩, hS.F ht⟩) hS.2.2 dX1_take_18
theorem jX1_findLost_X1 : ∀ w ∈ u_ws RX1 TX1 3, w ∈ wsX1_findLost := by decide +kernel
def F_X1_findLost (M : Mem) (p1 : Int32) : Option (Int32 × Mem) :=
  bi (F_X1_isWay M p1) fun q_1 => (if q_1 = 0 then some (0, M) else gd (inb p1 (ln 11)) <| (if 0 < (M 11 p1.toNatClampNeg) then gd (inb p1 (ln 11)) <| gd (inb p1 (ln 11)) <| bm (up2 M 11 p1.toNatClampNeg ((M 11 p1.toNatClampNeg) - 1)) fun M_8 => gd (inb p1 (ln 10)) <| gd (inb p1 (ln 10)) <| bm (up2 M_8 10 p1.toNatClampNeg ((M_8 10 p1.toNatClampNeg) + 1)) fun M_11 => some (1, M_11) else some (0, M)))
set_option maxHeartbeats 4000000 in
set_option maxRecDepth 100000 in
theorem k_X1_findLost (l : Launch) (dC : Nat → ClassId) (dI : Nat → Nat → Nat) (cI c9 : ClassId) (ad : Nat → Nat) (hI : Inj 100 ad) (M : Mem) (p1 : Int32) (q : Int32 × Mem) (h : F_X1_findLost M p1 = some q) : Met l yX1_findLost wsX1_findLost ({ frames := 1, cells := 0, slots := 0, locals := 21 }) (gP dC dI cI c9 ad M [.ref (ad 9), .int p1]) (va_Qi (fun x M' => x = q.1 ∧ M' = q.2) (fun M' t => va_P (dC, dI) vwCl (cW cI c9 ad M') t.heap) (Ac 100 ad)) 0 0 (Ac 100 ad) := by
  refine Met.ofW (cc := cX1_findLost) (maxL := 2) (ret := (some .boolean)) (by decide) rfl ?_
  intro p e s m args below meth c s₁ B hml hv
  obtain ⟨rfl, hP, hKK, hKw⟩ := hv
  have hx := B.exec
  have hb := B.bytes
  have hr := B.returns
  have hts := atoms_spec (ws := wsX1_findLost) B.pre
  have hown : s.vm.findClass RX1 = some m.cls := findClass_of_methodNamed B.named
  have hlocks := B.notSynchronized
  have hD := cwl_D hI (enc cI c9 ad M)
  have hS : va_S (Ac 100 ad) s.heap s.heap [] := va_S.rf
  have hl := lv_entry ([.ref (ad 9), .int p1]) (n := 2) (Nat.le_of_ble_eq_true rfl)
  rw [lg_entry_eq]
  generalize (lg_sl ([.ref (ad 9), .int p1]) ++ List.replicate (2 - (lg_sl ([.ref (ad 9), .int p1])).length) Slot.unset).toArray = ls at hl ⊢
  have hl : lv_has ls 2 [(0, .ref (ad 9)), (1, .int p1)] := hl
  unfold F_X1_findLost at h
  refine lv_aload_n hx hb dX1_findLost_0 rfl (lv_at hl 0 rfl) ?_
  refine lv_iload_n hx hb dX1_findLost_1 rfl (lv_at hl 1 rfl) ?_
  obtain ⟨q_1, hq_1, h⟩ := bi_some h
  refine vp_callSi (va_Run.run (va_runV (As := [.int p1]) (rest := []) ⟨hx, hb, hml, hown, hts⟩ (k_X1_isWay l dC dI cI c9 ad hI M p1 q_1 hq_1) (cwV 1 hts gX1_findLost_X1_isWay rfl rfl rfl (by decide +kernel) ⟨Nat.le_of_ble_eq_true rfl, Nat.le_of_ble_eq_true rfl⟩) (gP_preV hKK hKw hP (va_recv hKw hP (ci := 1) (q0 := 9) rfl cw_post)) rfl rfl hl.1 rfl (lv_room (Nat.le_of_ble_eq_true rfl)) dX1_findLost_2 ⟨Nat.zero_le _, Nat.zero_le _⟩)) (fun r_2 hr_2 => ?_)
  replace hr_2 := hr_2.symm
  subst hr_2
  refine lv_if_eq (tgt := 17) hx hb dX1_findLost_5 (by decide) (fun c_3 => ?_) (fun c_3 => ?_)
  · rw [if_pos c_3] at h
    refine lv_iconst (v := 0) hx hb dX1_findLost_17 (by decide) ?_
    replace h := Option.some.inj h
    subst h
    exact W.zret (v := 0) (ty := .boolean) hx hb hr (by rfl) (fun t ht hW => ⟨⟨_, _, rfl, ⟨rfl, rfl⟩, (show va_P (dC, dI) vwCl (cW cI c9 ad M) t.heap by rw [ht]; exact hP)⟩, hS.F ht⟩) hS.2.2 dX1_findLost_18
  · rw [if_neg c_3] at h
    refine lv_aload_n hx hb dX1_findLost_8 rfl (lv_at hl 0 rfl) ?_
    refine va_get (D := (dC, dI)) (ci := 1) (v := .ref (ad 11)) (C := RX1) (T := TX1) (N := 3) hx hb hts jX1_findLost_X1 hown hKw hP 9 cw_post rfl 1 (by decide) (hts (.fieldLink RX1 15 "LendThreads$Post" "lost" "[I") (by decide +kernel)) (fun _ h9 => h9) rfl dX1_findLost_9 ?_
    refine lv_iload_n hx hb dX1_findLost_12 rfl (lv_at hl 1 rfl) ?_
    obtain ⟨g_4, h⟩ := gd_some h
    refine va_iald hx hb hKw hP 11 0 (cw_arr (k := 11) (by decide) (by decide)) rfl (inb_in g_4) dX1_findLost_13 ?_
    refine lv_if_gt (tgt := 19) hx hb dX1_findLost_14 (by decide) (fun c_5 => ?_) (fun c_5 => ?_)
    · rw [if_pos c_5] at h
      refine lv_aload_n hx hb dX1_findLost_19 rfl (lv_at hl 0 rfl) ?_
      refine va_get (D := (dC, dI)) (ci := 1) (v := .ref (ad 11)) (C := RX1) (T := TX1) (N := 3) hx hb hts jX1_findLost_X1 hown hKw hP 9 cw_post rfl 1 (by decide) (hts (.fieldLink RX1 15 "LendThreads$Post" "lost" "[I") (by decide +kernel)) (fun _ h9 => h9) rfl dX1_findLost_20 ?_
      refine lv_iload_n hx hb dX1_findLost_23 rfl (lv_at hl 1 rfl) ?_
      refine lv_dup2_11 hx hb dX1_findLost_24 rfl rfl ?_
      obtain ⟨g_6, h⟩ := gd_some h
      refine va_iald hx hb hKw hP 11 0 (cw_arr (k := 11) (by decide) (by decide)) rfl (inb_in g_6) dX1_findLost_25 ?_
      refine lv_iconst (v := 1) hx hb dX1_findLost_26 (by decide) ?_
      refine lv_isub hx hb dX1_findLost_27 ?_
      obtain ⟨g_7, h⟩ := gd_some h
      refine va_iast hx hb hKw hP hD hS 11 0 (cw_arr (k := 11) (by decide) (by decide)) rfl (inb_in g_7) dX1_findLost_28 (fun H locs hP _ hS => ?_)
      have hP : va_P (dC, dI) vwCl (cW cI c9 ad (up2 M 11 p1.toNatClampNeg ((M 11 p1.toNatClampNeg) - 1))) H := by show va_P (dC, dI) vwCl (cwl 100 ad (enc cI c9 ad (up2 M 11 p1.toNatClampNeg ((M 11 p1.toNatClampNeg) - 1)))) H; unfold up2; rw [← en_arr (k := 11) (by decide), ← cwl_set (by decide)]; exact hP
      have hD := cwl_D hI (enc cI c9 ad (up2 M 11 p1.toNatClampNeg ((M 11 p1.toNatClampNeg) - 1)))
      generalize up2 M 11 p1.toNatClampNeg ((M 11 p1.toNatClampNeg) - 1) = M_8 at hP hD h
      replace h := bm_e h
      try dsimp only at h
      refine lv_aload_n hx hb dX1_findLost_29 rfl (lv_at hl 0 rfl) ?_
      refine va_get (D := (dC, dI)) (ci := 1) (v := .ref (ad 10)) (C := RX1) (T := TX1) (N := 3) hx hb hts jX1_findLost_X1 hown hKw hP 9 cw_post rfl 0 (by decide) (hts (.fieldLink RX1 9 "LendThreads$Post" "there" "[I") (by decide +kernel)) (fun _ h9 => h9) rfl dX1_findLost_30 ?_
      refine lv_iload_n hx hb dX1_findLost_33 rfl (lv_at hl 1 rfl) ?_
      refine lv_dup2_11 hx hb dX1_findLost_34 rfl rfl ?_
      obtain ⟨g_9, h⟩ := gd_some h
      refine va_iald hx hb hKw hP 10 0 (cw_arr (k := 10) (by decide) (by decide)) rfl (inb_in g_9) dX1_findLost_35 ?_
      refine lv_iconst (v := 1) hx hb dX1_findLost_36 (by decide) ?_
      refine lv_iadd hx hb dX1_findLost_37 ?_
      obtain ⟨g_10, h⟩ := gd_some h
      refine va_iast hx hb hKw hP hD hS 10 0 (cw_arr (k := 10) (by decide) (by decide)) rfl (inb_in g_10) dX1_findLost_38 (fun H locs hP _ hS => ?_)
      have hP : va_P (dC, dI) vwCl (cW cI c9 ad (up2 M_8 10 p1.toNatClampNeg ((M_8 10 p1.toNatClampNeg) + 1))) H := by show va_P (dC, dI) vwCl (cwl 100 ad (enc cI c9 ad (up2 M_8 10 p1.toNatClampNeg ((M_8 10 p1.toNatClampNeg) + 1)))) H; unfold up2; rw [← en_arr (k := 10) (by decide), ← cwl_set (by decide)]; exact hP
      have hD := cwl_D hI (enc cI c9 ad (up2 M_8 10 p1.toNatClampNeg ((M_8 10 p1.toNatClampNeg) + 1)))
      generalize up2 M_8 10 p1.toNatClampNeg ((M_8 10 p1.toNatClampNeg) + 1) = M_11 at hP hD h
      replace h := bm_e h
      try dsimp only at h
      refine lv_iconst (v := 1) hx hb dX1_findLost_39 (by decide) ?_
      replace h := Option.some.inj h
      subst h
      exact W.zret (v := 1) (ty := .boolean) hx hb hr (by rfl) (fun t ht hW => ⟨⟨_, _, rfl, ⟨rfl, rfl⟩, (show va_P (dC, dI) vwCl (cW cI c9 ad M_11) t.heap by rw [ht]; exact hP)⟩, hS.F ht⟩) hS.2.2 dX1_findLost_40
    · rw [if_neg c_5] at h
      refine lv_iconst (v := 0) hx hb dX1_findLost_17 (by decide) ?_
      replace h := Option.some.inj h
      subst h
      exact W.zret (v := 0) (ty := .boolean) hx hb hr (by rfl) (fun t ht hW => ⟨⟨_, _, rfl, ⟨rfl, rfl⟩, (show va_P (dC, dI) vwCl (cW cI c9 ad M) t.heap by rw [ht]; exact hP)⟩, hS.F ht⟩) hS.2.2 dX1_findLost_18
theorem jX0_write_X0 : ∀ w ∈ u_ws RX0 TX0 1, w ∈ wsX0_write := by decide +kernel
def F_X0_write (M : Mem) (p1 : Int32) (p2 : Int32) : Option (Mem) :=
  bi (F_X2_add M 13 0 ((100 * p1) + p2)) fun q_1 => some q_1.2
set_option maxHeartbeats 4000000 in
set_option maxRecDepth 100000 in
theorem k_X0_write (l : Launch) (dC : Nat → ClassId) (dI : Nat → Nat → Nat) (cI c9 : ClassId) (ad : Nat → Nat) (hI : Inj 100 ad) (M : Mem) (p1 : Int32) (p2 : Int32) (q : Mem) (h : F_X0_write M p1 p2 = some q) : Met l yX0_write wsX0_write ({ frames := 1, cells := 0, slots := 0, locals := 22 }) (gP dC dI cI c9 ad M [.ref (ad 12), .int p1, .int p2]) (va_Qv (fun M' => M' = q) (fun M' t => va_P (dC, dI) vwCl (cW cI c9 ad M') t.heap) (Ac 100 ad)) 0 0 (Ac 100 ad) := by
  refine Met.ofW (cc := cX0_write) (maxL := 3) (ret := none) (by decide) rfl ?_
  intro p e s m args below meth c s₁ B hml hv
  obtain ⟨rfl, hP, hKK, hKw⟩ := hv
  have hx := B.exec
  have hb := B.bytes
  have hr := B.returns
  have hts := atoms_spec (ws := wsX0_write) B.pre
  have hown : s.vm.findClass RX0 = some m.cls := findClass_of_methodNamed B.named
  have hlocks := B.notSynchronized
  have hD := cwl_D hI (enc cI c9 ad M)
  have hS : va_S (Ac 100 ad) s.heap s.heap [] := va_S.rf
  have hl := lv_entry ([.ref (ad 12), .int p1, .int p2]) (n := 3) (Nat.le_of_ble_eq_true rfl)
  rw [lg_entry_eq]
  generalize (lg_sl ([.ref (ad 12), .int p1, .int p2]) ++ List.replicate (3 - (lg_sl ([.ref (ad 12), .int p1, .int p2])).length) Slot.unset).toArray = ls at hl ⊢
  have hl : lv_has ls 3 [(0, .ref (ad 12)), (1, .int p1), (2, .int p2)] := hl
  unfold F_X0_write at h
  refine lv_aload_n hx hb dX0_write_0 rfl (lv_at hl 0 rfl) ?_
  refine va_get (D := (dC, dI)) (ci := 0) (v := .ref (ad 13)) (C := RX0) (T := TX0) (N := 1) hx hb hts jX0_write_X0 hown hKw hP 12 cw_diary rfl 0 (by decide) (hts (.fieldLink RX0 14 "LendThreads$Diary" "lines" "LLendThreads$Rows;") (by decide +kernel)) (fun _ h9 => h9) rfl dX0_write_1 ?_
  refine lv_iconst (v := 0) hx hb dX0_write_4 (by decide) ?_
  refine lv_bipush (v := 100) hx hb dX0_write_5 (by decide) ?_
  refine lv_iload_n hx hb dX0_write_7 rfl (lv_at hl 1 rfl) ?_
  refine lv_imul hx hb dX0_write_8 ?_
  refine lv_iload_n hx hb dX0_write_9 rfl (lv_at hl 2 rfl) ?_
  refine lv_iadd hx hb dX0_write_10 ?_
  obtain ⟨q_1, hq_1, h⟩ := bi_some h
  refine va_calli (va_runV (As := [.int 0, .int ((100 * p1) + p2)]) (rest := []) ⟨hx, hb, hml, hown, hts⟩ (k_X2_add l dC dI cI c9 ad hI M 13 rok_13 0 ((100 * p1) + p2) q_1 hq_1) (cwV 2 hts gX0_write_X2_add rfl rfl rfl (by decide +kernel) ⟨Nat.le_of_ble_eq_true rfl, Nat.le_of_ble_eq_true rfl⟩) (gP_preV hKK hKw hP (va_recv hKw hP (ci := 2) (q0 := 13) rfl (cw_rows rok_13.lt rok_13.k0))) rfl rfl hl.1 rfl (lv_room (Nat.le_of_ble_eq_true rfl)) dX0_write_11 ⟨Nat.zero_le _, Nat.zero_le _⟩) hS (fun q _ h => h) (fun q h => h) (fun r_2 M_3 t H locs ht hvm hw hP hz1 hk1 hS => ?_)
  obtain ⟨h1, h2⟩ := hw
  subst h1 h2
  rw [ht] at hP
  have hD := cwl_D hI (enc cI c9 ad q_1.2)
  refine lv_pop hx hb dX0_write_14 rfl ?_
  replace h := Option.some.inj h
  subst h
  exact W.vret hx hb hr (fun t ht hW => ⟨⟨_, rfl, rfl, (show va_P (dC, dI) vwCl (cW cI c9 ad q_1.2) t.heap by rw [ht]; exact hP)⟩, hS.F ht⟩) hS.2.2 dX0_write_15
