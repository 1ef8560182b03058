theorem jX6_work_X6 : ∀ w ∈ u_ws RX6 TX6 29, w ∈ wsX6_work := by decide +kernel
def F_X6_work (M : Mem) (p1 : Int32) (p2 : Int32) : Option (Int32 × Mem) :=
  bm (up2 M 0 0 0) fun M_1 => bi (F_X6_in M_1 p1 1 10) fun q_2 => (if q_2 = 0 then some ((-2), M_1) else bi (F_X6_in M_1 p2 (-1) (p1 - 1)) fun q_5 => (if q_5 = 0 then some ((-2), M_1) else (if (M_1 0 1) = 12 then some ((-4), M_1) else gd (inb (M_1 0 1) (lm 1)) <| bm (up2 M_1 1 ((M_1 0 1).toNatClampNeg) p1) fun M_10 => gd (inb (M_10 0 1) (lm 2)) <| bm (up2 M_10 2 ((M_10 0 1).toNatClampNeg) p2) fun M_12 => bm (up2 M_12 0 1 ((M_12 0 1) + 1)) fun M_13 => some (((M_13 0 1) - 1), M_13))))
set_option maxHeartbeats 4000000 in
set_option maxRecDepth 100000 in
theorem k_X6_work (l : Launch) (dC : Nat → ClassId) (dI : Nat → Nat → Nat) (cI cZ : ClassId) (am : Nat → Nat) (hI : Inj 24 am) (M : Mem) (p1 : Int32) (p2 : Int32) (q : Int32 × Mem) (h : F_X6_work M p1 p2 = some q) : Met l yX6_work wsX6_work ({ frames := 1, cells := 0, slots := 0, locals := 22 }) (gm dC dI cI cZ am M [.ref (am 0), .int p1, .int p2]) (va_Qi (fun x M' => x = q.1 ∧ M' = q.2) (fun M' t => va_P (dC, dI) vwCl (mW cI cZ am M') t.heap) (Ac 24 am)) 0 0 (Ac 24 am) := by
  refine Met.ofW (cc := cX6_work) (maxL := 3) (ret := (some .int)) (by decide) rfl ?_
  intro p e s m args below meth c s₁ B hml hv
  obtain ⟨rfl, hP, hKK, hKz⟩ := hv
  have hx := B.exec
  have hb := B.bytes
  have hr := B.returns
  have hts := atoms_spec (ws := wsX6_work) B.pre
  have hown : s.vm.findClass RX6 = some m.cls := findClass_of_methodNamed B.named
  have hlocks := B.notSynchronized
  have hD := cwl_D hI (encM cI cZ am M)
  have hS : va_S (Ac 24 am) s.heap s.heap [] := va_S.rf
  have hl := lv_entry ([.ref (am 0), .int p1, .int p2]) (n := 3) (Nat.le_of_ble_eq_true rfl)
  rw [lg_entry_eq]
  generalize (lg_sl ([.ref (am 0), .int p1, .int p2]) ++ List.replicate (3 - (lg_sl ([.ref (am 0), .int p1, .int p2])).length) Slot.unset).toArray = ls at hl ⊢
  have hl : lv_has ls 3 [(0, .ref (am 0)), (1, .int p1), (2, .int p2)] := hl
  unfold F_X6_work at h
  refine lv_aload_n hx hb dX6_work_0 rfl (lv_at hl 0 rfl) ?_
  refine lv_iconst (v := 0) hx hb dX6_work_1 (by decide) ?_
  refine va_put (D := (dC, dI)) (ci := 6) (v := .int 0) (ty := .int) (C := RX6) (T := TX6) (N := 29) hx hb hts jX6_work_X6 tyX6 tyX6_ok nmX6 hown hKz hP hD hS 0 mw_0 rfl 0 (by decide) (hts (.fieldLink RX6 80 "LendThreadsModel" "thrown" "I") (by decide +kernel)) (fun _ h9 => h9) rfl (by decide +kernel) rfl rfl (Nat.le_of_ble_eq_true rfl) dX6_work_2 (fun H locs hP _ hS => ?_)
  have hP : va_P (dC, dI) vwCl (mW cI cZ am (up2 M 0 0 0)) H := by show va_P (dC, dI) vwCl (cwl 24 am (encM cI cZ am (up2 M 0 0 0))) H; rw [← em_thrown, ← cwl_set (by decide)]; exact hP
  have hD := cwl_D hI (encM cI cZ am (up2 M 0 0 0))
  generalize up2 M 0 0 0 = M_1 at hP hD h
  replace h := bm_e h
  try dsimp only at h
  refine lv_iload_n hx hb dX6_work_5 rfl (lv_at hl 1 rfl) ?_
  refine lv_iconst (v := 1) hx hb dX6_work_6 (by decide) ?_
  refine lv_bipush (v := 10) hx hb dX6_work_7 (by decide) ?_
  obtain ⟨q_2, hq_2, h⟩ := bi_some h
  refine vp_callSi (va_Run.run (va_runS (As := [.int p1, .int 1, .int 10]) (rest := []) ⟨hx, hb, hml, hown, hts⟩ (k_X6_in l dC dI cI cZ am hI M_1 p1 1 10 q_2 hq_2) (va_cwS 3 hts gX6_work_X6_in rfl rfl rfl (by decide +kernel) ⟨Nat.le_of_ble_eq_true rfl, Nat.le_of_ble_eq_true rfl⟩) (gm_preS hKK hKz hP) rfl rfl hl.1 rfl (lv_room (Nat.le_of_ble_eq_true rfl)) dX6_work_9 ⟨Nat.zero_le _, Nat.zero_le _⟩)) (fun r_3 hr_3 => ?_)
  replace hr_3 := hr_3.symm
  subst hr_3
  refine lv_if_eq (tgt := 26) hx hb dX6_work_12 (by decide) (fun c_4 => ?_) (fun c_4 => ?_)
  · rw [if_pos c_4] at h
    refine lv_bipush (v := (-2)) hx hb dX6_work_26 (by decide) ?_
    replace h := Option.some.inj h
    subst h
    exact W.iret (v := (-2)) hx hb hr (fun t ht hW => ⟨⟨_, _, rfl, ⟨rfl, rfl⟩, (show va_P (dC, dI) vwCl (mW cI cZ am M_1) t.heap by rw [ht]; exact hP)⟩, hS.F ht⟩) hS.2.2 dX6_work_28
  · rw [if_neg c_4] at h
    refine lv_iload_n hx hb dX6_work_15 rfl (lv_at hl 2 rfl) ?_
    refine lv_iconst (v := (-1)) hx hb dX6_work_16 (by decide) ?_
    refine lv_iload_n hx hb dX6_work_17 rfl (lv_at hl 1 rfl) ?_
    refine lv_iconst (v := 1) hx hb dX6_work_18 (by decide) ?_
    refine lv_isub hx hb dX6_work_19 ?_
    obtain ⟨q_5, hq_5, h⟩ := bi_some h
    refine vp_callSi (va_Run.run (va_runS (As := [.int p2, .int (-1), .int (p1 - 1)]) (rest := []) ⟨hx, hb, hml, hown, hts⟩ (k_X6_in l dC dI cI cZ am hI M_1 p2 (-1) (p1 - 1) q_5 hq_5) (va_cwS 3 hts gX6_work_X6_in rfl rfl rfl (by decide +kernel) ⟨Nat.le_of_ble_eq_true rfl, Nat.le_of_ble_eq_true rfl⟩) (gm_preS hKK hKz hP) rfl rfl hl.1 rfl (lv_room (Nat.le_of_ble_eq_true rfl)) dX6_work_20 ⟨Nat.zero_le _, Nat.zero_le _⟩)) (fun r_6 hr_6 => ?_)
    replace hr_6 := hr_6.symm
    subst hr_6
    refine lv_if_ne (tgt := 29) hx hb dX6_work_23 (by decide) (fun c_7 => ?_) (fun c_7 => ?_)
    · rw [if_neg c_7] at h
      refine lv_aload_n hx hb dX6_work_29 rfl (lv_at hl 0 rfl) ?_
      refine va_get (D := (dC, dI)) (ci := 6) (v := .int (M_1 0 1)) (C := RX6) (T := TX6) (N := 29) hx hb hts jX6_work_X6 hown hKz hP 0 mw_0 rfl 1 (by decide) (hts (.fieldLink RX6 84 "LendThreadsModel" "works" "I") (by decide +kernel)) (fun _ h9 => h9) rfl dX6_work_30 ?_
      refine lv_bipush (v := 12) hx hb dX6_work_33 (by decide) ?_
      refine lv_icmp_ne (tgt := 41) hx hb dX6_work_35 (by decide) (fun c_8 => ?_) (fun c_8 => ?_)
      · rw [if_neg c_8] at h
        refine lv_aload_n hx hb dX6_work_41 rfl (lv_at hl 0 rfl) ?_
        refine va_get (D := (dC, dI)) (ci := 6) (v := .ref (am 1)) (C := RX6) (T := TX6) (N := 29) hx hb hts jX6_work_X6 hown hKz hP 0 mw_0 rfl 2 (by decide) (hts (.fieldLink RX6 7 "LendThreadsModel" "steps" "[I") (by decide +kernel)) (fun _ h9 => h9) rfl dX6_work_42 ?_
        refine lv_aload_n hx hb dX6_work_45 rfl (lv_at hl 0 rfl) ?_
        refine va_get (D := (dC, dI)) (ci := 6) (v := .int (M_1 0 1)) (C := RX6) (T := TX6) (N := 29) hx hb hts jX6_work_X6 hown hKz hP 0 mw_0 rfl 1 (by decide) (hts (.fieldLink RX6 84 "LendThreadsModel" "works" "I") (by decide +kernel)) (fun _ h9 => h9) rfl dX6_work_46 ?_
        refine lv_iload_n hx hb dX6_work_49 rfl (lv_at hl 1 rfl) ?_
        obtain ⟨g_9, h⟩ := gd_some h
        refine va_iast hx hb hKz hP hD hS 1 0 (mw_arr (k := 1) (by decide) (by decide) (by decide)) rfl (inb_in g_9) dX6_work_50 (fun H locs hP _ hS => ?_)
        have hP : va_P (dC, dI) vwCl (mW cI cZ am (up2 M_1 1 ((M_1 0 1).toNatClampNeg) p1)) H := by show va_P (dC, dI) vwCl (cwl 24 am (encM cI cZ am (up2 M_1 1 ((M_1 0 1).toNatClampNeg) p1))) H; rw [← em_arr (k := 1) (by decide) (by decide), ← cwl_set (by decide)]; exact hP
        have hD := cwl_D hI (encM cI cZ am (up2 M_1 1 ((M_1 0 1).toNatClampNeg) p1))
        generalize up2 M_1 1 ((M_1 0 1).toNatClampNeg) p1 = M_10 at hP hD h
        replace h := bm_e h
        try dsimp only at h
        refine lv_aload_n hx hb dX6_work_51 rfl (lv_at hl 0 rfl) ?_
        refine va_get (D := (dC, dI)) (ci := 6) (v := .ref (am 2)) (C := RX6) (T := TX6) (N := 29) hx hb hts jX6_work_X6 hown hKz hP 0 mw_0 rfl 3 (by decide) (hts (.fieldLink RX6 13 "LendThreadsModel" "failsAt" "[I") (by decide +kernel)) (fun _ h9 => h9) rfl dX6_work_52 ?_
        refine lv_aload_n hx hb dX6_work_55 rfl (lv_at hl 0 rfl) ?_
        refine va_get (D := (dC, dI)) (ci := 6) (v := .int (M_10 0 1)) (C := RX6) (T := TX6) (N := 29) hx hb hts jX6_work_X6 hown hKz hP 0 mw_0 rfl 1 (by decide) (hts (.fieldLink RX6 84 "LendThreadsModel" "works" "I") (by decide +kernel)) (fun _ h9 => h9) rfl dX6_work_56 ?_
        refine lv_iload_n hx hb dX6_work_59 rfl (lv_at hl 2 rfl) ?_
        obtain ⟨g_11, h⟩ := gd_some h
        refine va_iast hx hb hKz hP hD hS 2 0 (mw_arr (k := 2) (by decide) (by decide) (by decide)) rfl (inb_in g_11) dX6_work_60 (fun H locs hP _ hS => ?_)
        have hP : va_P (dC, dI) vwCl (mW cI cZ am (up2 M_10 2 ((M_10 0 1).toNatClampNeg) p2)) H := by show va_P (dC, dI) vwCl (cwl 24 am (encM cI cZ am (up2 M_10 2 ((M_10 0 1).toNatClampNeg) p2))) H; rw [← em_arr (k := 2) (by decide) (by decide), ← cwl_set (by decide)]; exact hP
        have hD := cwl_D hI (encM cI cZ am (up2 M_10 2 ((M_10 0 1).toNatClampNeg) p2))
        generalize up2 M_10 2 ((M_10 0 1).toNatClampNeg) p2 = M_12 at hP hD h
        replace h := bm_e h
        try dsimp only at h
        refine lv_aload_n hx hb dX6_work_61 rfl (lv_at hl 0 rfl) ?_
        refine lv_dup hx hb dX6_work_62 rfl ?_
        refine va_get (D := (dC, dI)) (ci := 6) (v := .int (M_12 0 1)) (C := RX6) (T := TX6) (N := 29) hx hb hts jX6_work_X6 hown hKz hP 0 mw_0 rfl 1 (by decide) (hts (.fieldLink RX6 84 "LendThreadsModel" "works" "I") (by decide +kernel)) (fun _ h9 => h9) rfl dX6_work_63 ?_
        refine lv_iconst (v := 1) hx hb dX6_work_66 (by decide) ?_
        refine lv_iadd hx hb dX6_work_67 ?_
        refine va_put (D := (dC, dI)) (ci := 6) (v := .int ((M_12 0 1) + 1)) (ty := .int) (C := RX6) (T := TX6) (N := 29) hx hb hts jX6_work_X6 tyX6 tyX6_ok nmX6 hown hKz hP hD hS 0 mw_0 rfl 1 (by decide) (hts (.fieldLink RX6 84 "LendThreadsModel" "works" "I") (by decide +kernel)) (fun _ h9 => h9) rfl (by decide +kernel) rfl rfl (Nat.le_of_ble_eq_true rfl) dX6_work_68 (fun H locs hP _ hS => ?_)
        have hP : va_P (dC, dI) vwCl (mW cI cZ am (up2 M_12 0 1 ((M_12 0 1) + 1))) H := by show va_P (dC, dI) vwCl (cwl 24 am (encM cI cZ am (up2 M_12 0 1 ((M_12 0 1) + 1)))) H; rw [← em_works, ← cwl_set (by decide)]; exact hP
        have hD := cwl_D hI (encM cI cZ am (up2 M_12 0 1 ((M_12 0 1) + 1)))
        generalize up2 M_12 0 1 ((M_12 0 1) + 1) = M_13 at hP hD h
        replace h := bm_e h
        try dsimp only at h
        refine lv_aload_n hx hb dX6_work_71 rfl (lv_at hl 0 rfl) ?_
        refine va_get (D := (dC, dI)) (ci := 6) (v := .int (M_13 0 1)) (C := RX6) (T := TX6) (N := 29) hx hb hts jX6_work_X6 hown hKz hP 0 mw_0 rfl 1 (by decide) (hts (.fieldLink RX6 84 "LendThreadsModel" "works" "I") (by decide +kernel)) (fun _ h9 => h9) rfl dX6_work_72 ?_
        refine lv_iconst (v := 1) hx hb dX6_work_75 (by decide) ?_
        refine lv_isub hx hb dX6_work_76 ?_
        replace h := Option.some.inj h
        subst h
        exact W.iret (v := ((M_13 0 1) - 1)) hx hb hr (fun t ht hW => ⟨⟨_, _, rfl, ⟨rfl, rfl⟩, (show va_P (dC, dI) vwCl (mW cI cZ am M_13) t.heap by rw [ht]; exact hP)⟩, hS.F ht⟩) hS.2.2 dX6_work_77
      · rw [if_pos c_8] at h
        refine lv_bipush (v := (-4)) hx hb dX6_work_38 (by decide) ?_
        replace h := Option.some.inj h
        subst h
        exact W.iret (v := (-4)) hx hb hr (fun t ht hW => ⟨⟨_, _, rfl, ⟨rfl, rfl⟩, (show va_P (dC, dI) vwCl (mW cI cZ am M_1) t.heap by rw [ht]; exact hP)⟩, hS.F ht⟩) hS.2.2 dX6_work_40
    · rw [if_pos c_7] at h
      refine lv_bipush (v := (-2)) hx hb dX6_work_26 (by decide) ?_
      replace h := Option.some.inj h
      subst h
      exact W.iret (v := (-2)) hx hb hr (fun t ht hW => ⟨⟨_, _, rfl, ⟨rfl, rfl⟩, (show va_P (dC, dI) vwCl (mW cI cZ am M_1) t.heap by rw [ht]; exact hP)⟩, hS.F ht⟩) hS.2.2 dX6_work_28
theorem jX6_wants_X6 : ∀ w ∈ u_ws RX6 TX6 29, w ∈ wsX6_wants := by decide +kernel
def F_X6_wants (M : Mem) (p1 : Int32) (p2 : Int32) (p3 : Int32) (p4 : Int32) : Option (Int32 × Mem) :=
  bm (up2 M 0 0 0) fun M_1 => bi (F_X6_isStep M_1 p1 p2) fun q_2 => (if q_2 = 0 then some ((-1), M_1) else (if p3 = 0 then bi (F_X6_in M_1 p4 0 9) fun q_6 => (if q_6 = 0 then some ((-2), M_1) else gd (inb p1 (lm 7)) <| (if (M_1 7 p1.toNatClampNeg) = 0 then gd (inb ((10 * p1) + p2) (lm 12)) <| (if (M_1 12 ((10 * p1) + p2).toNatClampNeg) = 4 then some ((-4), M_1) else gd (inb ((10 * p1) + p2) (lm 12)) <| (if p3 = 0 then gd (inb ((4 * ((10 * p1) + p2)) + (M_1 12 ((10 * p1) + p2).toNatClampNeg)) (lm 13)) <| bm (up2 M_1 13 (((4 * ((10 * p1) + p2)) + (M_1 12 ((10 * p1) + p2).toNatClampNeg)).toNatClampNeg) p4) fun M_16 => gd (inb ((10 * p1) + p2) (lm 12)) <| gd (inb ((10 * p1) + p2) (lm 12)) <| bm (up2 M_16 12 (((10 * p1) + p2).toNatClampNeg) ((M_16 12 ((10 * p1) + p2).toNatClampNeg) + 1)) fun M_19 => gd (inb ((10 * p1) + p2) (lm 12)) <| some ((M_19 12 ((10 * p1) + p2).toNatClampNeg), M_19) else gd (inb ((4 * ((10 * p1) + p2)) + (M_1 12 ((10 * p1) + p2).toNatClampNeg)) (lm 13)) <| bm (up2 M_1 13 (((4 * ((10 * p1) + p2)) + (M_1 12 ((10 * p1) + p2).toNatClampNeg)).toNatClampNeg) (100 + p4)) fun M_22 => gd (inb ((10 * p1) + p2) (lm 12)) <| gd (inb ((10 * p1) + p2) (lm 12)) <| bm (up2 M_22 12 (((10 * p1) + p2).toNatClampNeg) ((M_22 12 ((10 * p1) + p2).toNatClampNeg) + 1)) fun M_25 => gd (inb ((10 * p1) + p2) (lm 12)) <| some ((M_25 12 ((10 * p1) + p2).toNatClampNeg), M_25))) else some ((-3), M_1))) else bi (F_X6_isWork M_1 p4) fun q_27 => (if q_27 = 0 then some ((-2), M_1) else (if p4 = p1 then some ((-2), M_1) else gd (inb p1 (lm 7)) <| (if (M_1 7 p1.toNatClampNeg) = 0 then gd (inb ((10 * p1) + p2) (lm 12)) <| (if (M_1 12 ((10 * p1) + p2).toNatClampNeg) = 4 then some ((-4), M_1) else gd (inb ((10 * p1) + p2) (lm 12)) <| (if p3 = 0 then gd (inb ((4 * ((10 * p1) + p2)) + (M_1 12 ((10 * p1) + p2).toNatClampNeg)) (lm 13)) <| bm (up2 M_1 13 (((4 * ((10 * p1) + p2)) + (M_1 12 ((10 * p1) + p2).toNatClampNeg)).toNatClampNeg) p4) fun M_38 => gd (inb ((10 * p1) + p2) (lm 12)) <| gd (inb ((10 * p1) + p2) (lm 12)) <| bm (up2 M_38 12 (((10 * p1) + p2).toNatClampNeg) ((M_38 12 ((10 * p1) + p2).toNatClampNeg) + 1)) fun M_41 => gd (inb ((10 * p1) + p2) (lm 12)) <| some ((M_41 12 ((10 * p1) + p2).toNatClampNeg), M_41) else gd (inb ((4 * ((10 * p1) + p2)) + (M_1 12 ((10 * p1) + p2).toNatClampNeg)) (lm 13)) <| bm (up2 M_1 13 (((4 * ((10 * p1) + p2)) + (M_1 12 ((10 * p1) + p2).toNatClampNeg)).toNatClampNeg) (100 + p4)) fun M_44 => gd (inb ((10 * p1) + p2) (lm 12)) <| gd (inb ((10 * p1) + p2) (lm 12)) <| bm (up2 M_44 12 (((10 * p1) + p2).toNatClampNeg) ((M_44 12 ((10 * p1) + p2).toNatClampNeg) + 1)) fun M_47 => gd (inb ((10 * p1) + p2) (lm 12)) <| some ((M_47 12 ((10 * p1) + p2).toNatClampNeg), M_47))) else some ((-3), M_1))))))
set_option maxHeartbeats 4000000 in
set_option maxRecDepth 100000 in
theorem k_X6_wants (l : Launch) (dC : Nat → ClassId) (dI : Nat → Nat → Nat) (cI cZ : ClassId) (am : Nat → Nat) (hI : Inj 24 am) (M : Mem) (p1 : Int32) (p2 : Int32) (p3 : Int32) (p4 : Int32) (q : Int32 × Mem) (h : F_X6_wants M p1 p2 p3 p4 = some q) : Met l yX6_wants wsX6_wants ({ frames := 3, cells := 0, slots := 0, locals := 65 }) (gm dC dI cI cZ am M [.ref (am 0), .int p1, .int p2, .int p3, .int p4]) (va_Qi (fun x M' => x = q.1 ∧ M' = q.2) (fun M' t => va_P (dC, dI) vwCl (mW cI cZ am M') t.heap) (Ac 24 am)) 0 0 (Ac 24 am) := by
  refine Met.ofW (cc := cX6_wants) (maxL := 6) (ret := (some .int)) (by decide) rfl ?_
  intro p e s m args below meth c s₁ B hml hv
  obtain ⟨rfl, hP, hKK, hKz⟩ := hv
  have hx := B.exec
  have hb := B.bytes
  have hr := B.returns
  have hts := atoms_spec (ws := wsX6_wants) B.pre
  have hown : s.vm.findClass RX6 = some m.cls := findClass_of_methodNamed B.named
  have hlocks := B.notSynchronized
  have hD := cwl_D hI (encM cI cZ am M)
  have hS : va_S (Ac 24 am) s.heap s.heap [] := va_S.rf
  have hl := lv_entry ([.ref (am 0), .int p1, .int p2, .int p3, .int p4]) (n := 6) (Nat.le_of_ble_eq_true rfl)
  rw [lg_entry_eq]
  generalize (lg_sl ([.ref (am 0), .int p1, .int p2, .int p3, .int p4]) ++ List.replicate (6 - (lg_sl ([.ref (am 0), .int p1, .int p2, .int p3, .int p4])).length) Slot.unset).toArray = ls at hl ⊢
  have hl : lv_has ls 6 [(0, .ref (am 0)), (1, .int p1), (2, .int p2), (3, .int p3), (4, .int p4)] := hl
  unfold F_X6_wants at h
  refine lv_aload_n hx hb dX6_wants_0 rfl (lv_at hl 0 rfl) ?_
  refine lv_iconst (v := 0) hx hb dX6_wants_1 (by decide) ?_
  refine va_put (D := (dC, dI)) (ci := 6) (v := .int 0) (ty := .int) (C := RX6) (T := TX6) (N := 29) hx hb hts jX6_wants_X6 tyX6 tyX6_ok nmX6 hown hKz hP hD hS 0 mw_0 rfl 0 (by decide) (hts (.fieldLink RX6 80 "LendThreadsModel" "thrown" "I") (by decide +kernel)) (fun _ h9 => h9) rfl (by decide +kernel) rfl rfl (Nat.le_of_ble_eq_true rfl) dX6_wants_2 (fun H locs hP _ hS => ?_)
  have hP : va_P (dC, dI) vwCl (mW cI cZ am (up2 M 0 0 0)) H := by show va_P (dC, dI) vwCl (cwl 24 am (encM cI cZ am (up2 M 0 0 0))) H; rw [← em_thrown, ← cwl_set (by decide)]; exact hP
  have hD := cwl_D hI (encM cI cZ am (up2 M 0 0 0))
  generalize up2 M 0 0 0 = M_1 at hP hD h
  replace h := bm_e h
  try dsimp only at h
  refine lv_aload_n hx hb dX6_wants_5 rfl (lv_at hl 0 rfl) ?_
  refine lv_iload_n hx hb dX6_wants_6 rfl (lv_at hl 1 rfl) ?_
  refine lv_iload_n hx hb dX6_wants_7 rfl (lv_at hl 2 rfl) ?_
  obtain ⟨q_2, hq_2, h⟩ := bi_some h
  refine vp_callSi (va_Run.run (va_runV (As := [.int p1, .int p2]) (rest := []) ⟨hx, hb, hml, hown, hts⟩ (k_X6_isStep l dC dI cI cZ am hI M_1 p1 p2 q_2 hq_2) (cwV 2 hts gX6_wants_X6_isStep rfl rfl rfl (by decide +kernel) ⟨Nat.le_of_ble_eq_true rfl, Nat.le_of_ble_eq_true rfl⟩) (gm_preV hKK hKz hP (va_recv hKz hP (ci := 6) (q0 := 0) rfl mw_0)) rfl rfl hl.1 rfl (lv_room (Nat.le_of_ble_eq_true rfl)) dX6_wants_8 ⟨Nat.zero_le _, Nat.zero_le _⟩)) (fun r_3 hr_3 => ?_)
  replace hr_3 := hr_3.symm
  subst hr_3
  refine lv_if_ne (tgt := 16) hx hb dX6_wants_11 (by decide) (fun c_4 => ?_) (fun c_4 => ?_)
  · rw [if_neg c_4] at h
    refine lv_iload_n hx hb dX6_wants_16 rfl (lv_at hl 3 rfl) ?_
    refine lv_if_eq (tgt := 38) hx hb dX6_wants_17 (by decide) (fun c_5 => ?_) (fun c_5 => ?_)
    · rw [if_pos c_5] at h
      refine lv_iload hx hb dX6_wants_38 (lv_at hl 4 rfl) ?_
      refine lv_iconst (v := 0) hx hb dX6_wants_40 (by decide) ?_
      refine lv_bipush (v := 9) hx hb dX6_wants_41 (by decide) ?_
      obtain ⟨q_6, hq_6, h⟩ := bi_some h
      refine vp_callSi (va_Run.run (va_runS (As := [.int p4, .int 0, .int 9]) (rest := []) ⟨hx, hb, hml, hown, hts⟩ (k_X6_in l dC dI cI cZ am hI M_1 p4 0 9 q_6 hq_6) (va_cwS 3 hts gX6_wants_X6_in rfl rfl rfl (by decide +kernel) ⟨Nat.le_of_ble_eq_true rfl, Nat.le_of_ble_eq_true rfl⟩) (gm_preS hKK hKz hP) rfl rfl hl.1 rfl (lv_room (Nat.le_of_ble_eq_true rfl)) dX6_wants_43 ⟨Nat.zero_le _, Nat.zero_le _⟩)) (fun r_7 hr_7 => ?_)
      replace hr_7 := hr_7.symm
      subst hr_7
      refine lv_if_ne (tgt := 52) hx hb dX6_wants_46 (by decide) (fun c_8 => ?_) (fun c_8 => ?_)
      · rw [if_neg c_8] at h
        refine lv_aload_n hx hb dX6_wants_52 rfl (lv_at hl 0 rfl) ?_
        refine va_get (D := (dC, dI)) (ci := 6) (v := .ref (am 7)) (C := RX6) (T := TX6) (N := 29) hx hb hts jX6_wants_X6 hown hKz hP 0 mw_0 rfl 8 (by decide) (hts (.fieldLink RX6 28 "LendThreadsModel" "begun" "[Z") (by decide +kernel)) (fun _ h9 => h9) rfl dX6_wants_53 ?_
        refine lv_iload_n hx hb dX6_wants_56 rfl (lv_at hl 1 rfl) ?_
        obtain ⟨g_9, h⟩ := gd_some h
        refine va_zald hx hb hKz hP 7 1 mw_z rfl (inb_in g_9) dX6_wants_57 ?_
        refine lv_if_eq (tgt := 64) hx hb dX6_wants_58 (by decide) (fun c_10 => ?_) (fun c_10 => ?_)
        · rw [if_pos c_10] at h
          refine lv_bipush (v := 10) hx hb dX6_wants_64 (by decide) ?_
          refine lv_iload_n hx hb dX6_wants_66 rfl (lv_at hl 1 rfl) ?_
          refine lv_imul hx hb dX6_wants_67 ?_
          refine lv_iload_n hx hb dX6_wants_68 rfl (lv_at hl 2 rfl) ?_
          refine lv_iadd hx hb dX6_wants_69 ?_
          refine lv_istore (lv' := [(5, .int ((10 * p1) + p2)), (0, .ref (am 0)), (1, .int p1), (2, .int p2), (3, .int p3), (4, .int p4)]) hx hb dX6_wants_70 hl (by decide) rfl (fun ls hl => ?_)
          refine lv_aload_n hx hb dX6_wants_72 rfl (lv_at hl 1 rfl) ?_
          refine va_get (D := (dC, dI)) (ci := 6) (v := .ref (am 12)) (C := RX6) (T := TX6) (N := 29) hx hb hts jX6_wants_X6 hown hKz hP 0 mw_0 rfl 14 (by decide) (hts (.fieldLink RX6 44 "LendThreadsModel" "wantCount" "[I") (by decide +kernel)) (fun _ h9 => h9) rfl dX6_wants_73 ?_
          refine lv_iload hx hb dX6_wants_76 (lv_at hl 0 rfl) ?_
          obtain ⟨g_11, h⟩ := gd_some h
          refine va_iald hx hb hKz hP 12 0 (mw_arr (k := 12) (by decide) (by decide) (by decide)) rfl (inb_in g_11) dX6_wants_78 ?_
          refine lv_iconst (v := 4) hx hb dX6_wants_79 (by decide) ?_
          refine lv_icmp_ne (tgt := 86) hx hb dX6_wants_80 (by decide) (fun c_12 => ?_) (fun c_12 => ?_)
          · rw [if_neg c_12] at h
            refine lv_aload_n hx hb dX6_wants_86 rfl (lv_at hl 1 rfl) ?_
            refine va_get (D := (dC, dI)) (ci := 6) (v := .ref (am 13)) (C := RX6) (T := TX6) (N := 29) hx hb hts jX6_wants_X6 hown hKz hP 0 mw_0 rfl 15 (by decide) (hts (.fieldLink RX6 47 "LendThreadsModel" "want" "[I") (by decide +kernel)) (fun _ h9 => h9) rfl dX6_wants_87 ?_
            refine lv_iconst (v := 4) hx hb dX6_wants_90 (by decide) ?_
            refine lv_iload hx hb dX6_wants_91 (lv_at hl 0 rfl) ?_
            refine lv_imul hx hb dX6_wants_93 ?_
            refine lv_aload_n hx hb dX6_wants_94 rfl (lv_at hl 1 rfl) ?_
            refine va_get (D := (dC, dI)) (ci := 6) (v := .ref (am 12)) (C := RX6) (T := TX6) (N := 29) hx hb hts jX6_wants_X6 hown hKz hP 0 mw_0 rfl 14 (by decide) (hts (.fieldLink RX6 44 "LendThreadsModel" "wantCount" "[I") (by decide +kernel)) (fun _ h9 => h9) rfl dX6_wants_95 ?_
            refine lv_iload hx hb dX6_wants_98 (lv_at hl 0 rfl) ?_
            obtain ⟨g_13, h⟩ := gd_some h
            refine va_iald hx hb hKz hP 12 0 (mw_arr (k := 12) (by decide) (by decide) (by decide)) rfl (inb_in g_13) dX6_wants_100 ?_
            refine lv_iadd hx hb dX6_wants_101 ?_
            refine lv_iload_n hx hb dX6_wants_102 rfl (lv_at hl 4 rfl) ?_
            refine lv_if_eq (tgt := 114) hx hb dX6_wants_103 (by decide) (fun c_14 => ?_) (fun c_14 => ?_)
            · rw [if_pos c_14] at h
              refine lv_iload hx hb dX6_wants_114 (lv_at hl 5 rfl) ?_
              obtain ⟨g_15, h⟩ := gd_some h
              refine va_iast hx hb hKz hP hD hS 13 0 (mw_arr (k := 13) (by decide) (by decide) (by decide)) rfl (inb_in g_15) dX6_wants_116 (fun H locs hP _ hS => ?_)
              have hP : va_P (dC, dI) vwCl (mW cI cZ am (up2 M_1 13 (((4 * ((10 * p1) + p2)) + (M_1 12 ((10 * p1) + p2).toNatClampNeg)).toNatClampNeg) p4)) H := by show va_P (dC, dI) vwCl (cwl 24 am (encM cI cZ am (up2 M_1 13 (((4 * ((10 * p1) + p2)) + (M_1 12 ((10 * p1) + p2).toNatClampNeg)).toNatClampNeg) p4))) H; rw [← em_arr (k := 13) (by decide) (by decide), ← cwl_set (by decide)]; exact hP
              have hD := cwl_D hI (encM cI cZ am (up2 M_1 13 (((4 * ((10 * p1) + p2)) + (M_1 12 ((10 * p1) + p2).toNatClampNeg)).toNatClampNeg) p4))
              generalize up2 M_1 13 (((4 * ((10 * p1) + p2)) + (M_1 12 ((10 * p1) + p2).toNatClampNeg)).toNatClampNeg) p4 = M_16 at hP hD h
              replace h := bm_e h
              try dsimp only at h
              refine lv_aload_n hx hb dX6_wants_117 rfl (lv_at hl 1 rfl) ?_
              refine va_get (D := (dC, dI)) (ci := 6) (v := .ref (am 12)) (C := RX6) (T := TX6) (N := 29) hx hb hts jX6_wants_X6 hown hKz hP 0 mw_0 rfl 14 (by decide) (hts (.fieldLink RX6 44 "LendThreadsModel" "wantCount" "[I") (by decide +kernel)) (fun _ h9 => h9) rfl dX6_wants_118 ?_
              refine lv_iload hx hb dX6_wants_121 (lv_at hl 0 rfl) ?_
              refine lv_dup2_11 hx hb dX6_wants_123 rfl rfl ?_
              obtain ⟨g_17, h⟩ := gd_some h
              refine va_iald hx hb hKz hP 12 0 (mw_arr (k := 12) (by decide) (by decide) (by decide)) rfl (inb_in g_17) dX6_wants_124 ?_
              refine lv_iconst (v := 1) hx hb dX6_wants_125 (by decide) ?_
              refine lv_iadd hx hb dX6_wants_126 ?_
              obtain ⟨g_18, h⟩ := gd_some h
              refine va_iast hx hb hKz hP hD hS 12 0 (mw_arr (k := 12) (by decide) (by decide) (by decide)) rfl (inb_in g_18) dX6_wants_127 (fun H locs hP _ hS => ?_)
              have hP : va_P (dC, dI) vwCl (mW cI cZ am (up2 M_16 12 (((10 * p1) + p2).toNatClampNeg) ((M_16 12 ((10 * p1) + p2).toNatClampNeg) + 1))) H := by show va_P (dC, dI) vwCl (cwl 24 am (encM cI cZ am (up2 M_16 12 (((10 * p1) + p2).toNatClampNeg) ((M_16 12 ((10 * p1) + p2).toNatClampNeg) + 1)))) H; rw [← em_arr (k := 12) (by decide) (by decide), ← cwl_set (by decide)]; exact hP
              have hD := cwl_D hI (encM cI cZ am (up2 M_16 12 (((10 * p1) + p2).toNatClampNeg) ((M_16 12 ((10 * p1) + p2).toNatClampNeg) + 1)))
              generalize up2 M_16 12 (((10 * p1) + p2).toNatClampNeg) ((M_16 12 ((10 * p1) + p2).toNatClampNeg) + 1) = M_19 at hP hD h
              replace h := bm_e h
              try dsimp only at h
              refine lv_aload_n hx hb dX6_wants_128 rfl (lv_at hl 1 rfl) ?_
              refine va_get (D := (dC, dI)) (ci := 6) (v := .ref (am 12)) (C := RX6) (T := TX6) (N := 29) hx hb hts jX6_wants_X6 hown hKz hP 0 mw_0 rfl 14 (by decide) (hts (.fieldLink RX6 44 "LendThreadsModel" "wantCount" "[I") (by decide +kernel)) (fun _ h9 => h9) rfl dX6_wants_129 ?_
              refine lv_iload hx hb dX6_wants_132 (lv_at hl 0 rfl) ?_
              obtain ⟨g_20, h⟩ := gd_some h
              refine va_iald hx hb hKz hP 12 0 (mw_arr (k := 12) (by decide) (by decide) (by decide)) rfl (inb_in g_20) dX6_wants_134 ?_
              replace h := Option.some.inj h
              subst h
              exact W.iret (v := (M_19 12 ((10 * p1) + p2).toNatClampNeg)) hx hb hr (fun t ht hW => ⟨⟨_, _, rfl, ⟨rfl, rfl⟩, (show va_P (dC, dI) vwCl (mW cI cZ am M_19) t.heap by rw [ht]; exact hP)⟩, hS.F ht⟩) hS.2.2 dX6_wants_135
            · rw [if_neg c_14] at h
              refine lv_bipush (v := 100) hx hb dX6_wants_106 (by decide) ?_
              refine lv_iload hx hb dX6_wants_108 (lv_at hl 5 rfl) ?_
              refine lv_iadd hx hb dX6_wants_110 ?_
              refine lv_goto (tgt := 116) hx hb dX6_wants_111 (by decide) ?_
              obtain ⟨g_21, h⟩ := gd_some h
              refine va_iast hx hb hKz hP hD hS 13 0 (mw_arr (k := 13) (by decide) (by decide) (by decide)) rfl (inb_in g_21) dX6_wants_116 (fun H locs hP _ hS => ?_)
              have hP : va_P (dC, dI) vwCl (mW cI cZ am (up2 M_1 13 (((4 * ((10 * p1) + p2)) + (M_1 12 ((10 * p1) + p2).toNatClampNeg)).toNatClampNeg) (100 + p4))) H := by show va_P (dC, dI) vwCl (cwl 24 am (encM cI cZ am (up2 M_1 13 (((4 * ((10 * p1) + p2)) + (M_1 12 ((10 * p1) + p2).toNatClampNeg)).toNatClampNeg) (100 + p4)))) H; rw [← em_arr (k := 13) (by decide) (by decide), ← cwl_set (by decide)]; exact hP
              have hD := cwl_D hI (encM cI cZ am (up2 M_1 13 (((4 * ((10 * p1) + p2)) + (M_1 12 ((10 * p1) + p2).toNatClampNeg)).toNatClampNeg) (100 + p4)))
              generalize up2 M_1 13 (((4 * ((10 * p1) + p2)) + (M_1 12 ((10 * p1) + p2).toNatClampNeg)).toNatClampNeg) (100 + p4) = M_22 at hP hD h
              replace h := bm_e h
              try dsimp only at h
              refine lv_aload_n hx hb dX6_wants_117 rfl (lv_at hl 1 rfl) ?_
              refine va_get (D := (dC, dI)) (ci := 6) (v := .ref (am 12)) (C := RX6) (T := TX6) (N := 29) hx hb hts jX6_wants_X6 hown hKz hP 0 mw_0 rfl 14 (by decide) (hts (.fieldLink RX6 44 "LendThreadsModel" "wantCount" "[I") (by decide +kernel)) (fun _ h9 => h9) rfl dX6_wants_118 ?_
              refine lv_iload hx hb dX6_wants_121 (lv_at hl 0 rfl) ?_
              refine lv_dup2_11 hx hb dX6_wants_123 rfl rfl ?_
              obtain ⟨g_23, h⟩ := gd_some h
              refine va_iald hx hb hKz hP 12 0 (mw_arr (k := 12) (by decide) (by decide) (by decide)) rfl (inb_in g_23) dX6_wants_124 ?_
              refine lv_iconst (v := 1) hx hb dX6_wants_125 (by decide) ?_
              refine lv_iadd hx hb dX6_wants_126 ?_
              obtain ⟨g_24, h⟩ := gd_some h
              refine va_iast hx hb hKz hP hD hS 12 0 (mw_arr (k := 12) (by decide) (by decide) (by decide)) rfl (inb_in g_24) dX6_wants_127 (fun H locs hP _ hS => ?_)
              have hP : va_P (dC, dI) vwCl (mW cI cZ am (up2 M_22 12 (((10 * p1) + p2).toNatClampNeg) ((M_22 12 ((10 * p1) + p2).toNatClampNeg) + 1))) H := by show va_P (dC, dI) vwCl (cwl 24 am (encM cI cZ am (up2 M_22 12 (((10 * p1) + p2).toNatClampNeg) ((M_22 12 ((10 * p1) + p2).toNatClampNeg) + 1)))) H; rw [← em_arr (k := 12) (by decide) (by decide), ← cwl_set (by decide)]; exact hP
              have hD := cwl_D hI (encM cI cZ am (up2 M_22 12 (((10 * p1) + p2).toNatClampNeg) ((M_22 12 ((10 * p1) + p2).toNatClampNeg) + 1)))
              generalize up2 M_22 12 (((10 * p1) + p2).toNatClampNeg) ((M_22 12 ((10 * p1) + p2).toNatClampNeg) + 1) = M_25 at hP hD h
              replace h := bm_e h
              try dsimp only at h
              refine lv_aload_n hx hb dX6_wants_128 rfl (lv_at hl 1 rfl) ?_
              refine va_get (D := (dC, dI)) (ci := 6) (v := .ref (am 12)) (C := RX6) (T := TX6) (N := 29) hx hb hts jX6_wants_X6 hown hKz hP 0 mw_0 rfl 14 (by decide) (hts (.fieldLink RX6 44 "LendThreadsModel" "wantCount" "[I") (by decide +kernel)) (fun _ h9 => h9) rfl dX6_wants_129 ?_
              refine lv_iload hx hb dX6_wants_132 (lv_at hl 0 rfl) ?_
              obtain ⟨g_26, h⟩ := gd_some h
              refine va_iald hx hb hKz hP 12 0 (mw_arr (k := 12) (by decide) (by decide) (by decide)) rfl (inb_in g_26) dX6_wants_134 ?_
              replace h := Option.some.inj h
              subst h
              exact W.iret (v := (M_25 12 ((10 * p1) + p2).toNatClampNeg)) hx hb hr (fun t ht hW => ⟨⟨_, _, rfl, ⟨rfl, rfl⟩, (show va_P (dC, dI) vwCl (mW cI cZ am M_25) t.heap by rw [ht]; exact hP)⟩, hS.F ht⟩) hS.2.2 dX6_wants_135
          · rw [if_pos c_12] at h
            refine lv_bipush (v := (-4)) hx hb dX6_wants_83 (by decide) ?_
            replace h := Option.some.inj h
            subst h
            exact W.iret (v := (-4)) hx hb hr (fun t ht hW => ⟨⟨_, _, rfl, ⟨rfl, rfl⟩, (show va_P (dC, dI) vwCl (mW cI cZ am M_1) t.heap by rw [ht]; exact hP)⟩, hS.F ht⟩) hS.2.2 dX6_wants_85
        · rw [if_neg c_10] at h
          refine lv_bipush (v := (-3)) hx hb dX6_wants_61 (by decide) ?_
          replace h := Option.some.inj h
          subst h
          exact W.iret (v := (-3)) hx hb hr (fun t ht hW => ⟨⟨_, _, rfl, ⟨rfl, rfl⟩, (show va_P (dC, dI) vwCl (mW cI cZ am M_1) t.heap by rw [ht]; exact hP)⟩, hS.F ht⟩) hS.2.2 dX6_wants_63
      · rw [if_pos c_8] at h
        refine lv_bipush (v := (-2)) hx hb dX6_wants_49 (by decide) ?_
        replace h := Option.some.inj h
        subst h
        exact W.iret (v := (-2)) hx hb hr (fun t ht hW => ⟨⟨_, _, rfl, ⟨rfl, rfl⟩, (show va_P (dC, dI) vwCl (mW cI cZ am M_1) t.heap by rw [ht]; exact hP)⟩, hS.F ht⟩) hS.2.2 dX6_wants_51
    · rw [if_neg c_5] at h
      refine lv_aload_n hx hb dX6_wants_20 rfl (lv_at hl 0 rfl) ?_
      refine lv_iload hx hb dX6_wants_21 (lv_at hl 4 rfl) ?_
      obtain ⟨q_27, hq_27, h⟩ := bi_some h
      refine vp_callSi (va_Run.run (va_runV (As := [.int p4]) (rest := []) ⟨hx, hb, hml, hown, hts⟩ (k_X6_isWork l dC dI cI cZ am hI M_1 p4 q_27 hq_27) (cwV 1 hts gX6_wants_X6_isWork rfl rfl rfl (by decide +kernel) ⟨Nat.le_of_ble_eq_true rfl, Nat.le_of_ble_eq_true rfl⟩) (gm_preV hKK hKz hP (va_recv hKz hP (ci := 6) (q0 := 0) rfl mw_0)) rfl rfl hl.1 rfl (lv_room (Nat.le_of_ble_eq_true rfl)) dX6_wants_23 ⟨Nat.zero_le _, Nat.zero_le _⟩)) (fun r_28 hr_28 => ?_)
      replace hr_28 := hr_28.symm
      subst hr_28
      refine lv_if_eq (tgt := 49) hx hb dX6_wants_26 (by decide) (fun c_29 => ?_) (fun c_29 => ?_)
      · rw [if_pos c_29] at h
        refine lv_bipush (v := (-2)) hx hb dX6_wants_49 (by decide) ?_
        replace h := Option.some.inj h
        subst h
        exact W.iret (v := (-2)) hx hb hr (fun t ht hW => ⟨⟨_, _, rfl, ⟨rfl, rfl⟩, (show va_P (dC, dI) vwCl (mW cI cZ am M_1) t.heap by rw [ht]; exact hP)⟩, hS.F ht⟩) hS.2.2 dX6_wants_51
      · rw [if_neg c_29] at h
        refine lv_iload hx hb dX6_wants_29 (lv_at hl 4 rfl) ?_
        refine lv_iload_n hx hb dX6_wants_31 rfl (lv_at hl 1 rfl) ?_
        refine lv_icmp_ne (tgt := 52) hx hb dX6_wants_32 (by decide) (fun c_30 => ?_) (fun c_30 => ?_)
        · rw [if_neg c_30] at h
          refine lv_aload_n hx hb dX6_wants_52 rfl (lv_at hl 0 rfl) ?_
          refine va_get (D := (dC, dI)) (ci := 6) (v := .ref (am 7)) (C := RX6) (T := TX6) (N := 29) hx hb hts jX6_wants_X6 hown hKz hP 0 mw_0 rfl 8 (by decide) (hts (.fieldLink RX6 28 "LendThreadsModel" "begun" "[Z") (by decide +kernel)) (fun _ h9 => h9) rfl dX6_wants_53 ?_
          refine lv_iload_n hx hb dX6_wants_56 rfl (lv_at hl 1 rfl) ?_
          obtain ⟨g_31, h⟩ := gd_some h
          refine va_zald hx hb hKz hP 7 1 mw_z rfl (inb_in g_31) dX6_wants_57 ?_
          refine lv_if_eq (tgt := 64) hx hb dX6_wants_58 (by decide) (fun c_32 => ?_) (fun c_32 => ?_)
          · rw [if_pos c_32] at h
            refine lv_bipush (v := 10) hx hb dX6_wants_64 (by decide) ?_
            refine lv_iload_n hx hb dX6_wants_66 rfl (lv_at hl 1 rfl) ?_
            refine lv_imul hx hb dX6_wants_67 ?_
            refine lv_iload_n hx hb dX6_wants_68 rfl (lv_at hl 2 rfl) ?_
            refine lv_iadd hx hb dX6_wants_69 ?_
            refine lv_istore (lv' := [(5, .int ((10 * p1) + p2)), (0, .ref (am 0)), (1, .int p1), (2, .int p2), (3, .int p3), (4, .int p4)]) hx hb dX6_wants_70 hl (by decide) rfl (fun ls hl => ?_)
            refine lv_aload_n hx hb dX6_wants_72 rfl (lv_at hl 1 rfl) ?_
            refine va_get (D := (dC, dI)) (ci := 6) (v := .ref (am 12)) (C := RX6) (T := TX6) (N := 29) hx hb hts jX6_wants_X6 hown hKz hP 0 mw_0 rfl 14 (by decide) (hts (.fieldLink RX6 44 "LendThreadsModel" "wantCount" "[I") (by decide +kernel)) (fun _ h9 => h9) rfl dX6_wants_73 ?_
            refine lv_iload hx hb dX6_wants_76 (lv_at hl 0 rfl) ?_
            obtain ⟨g_33, h⟩ := gd_some h
            refine va_iald hx hb hKz hP 12 0 (mw_arr (k := 12) (by decide) (by decide) (by decide)) rfl (inb_in g_33) dX6_wants_78 ?_
            refine lv_iconst (v := 4) hx hb dX6_wants_79 (by decide) ?_
            refine lv_icmp_ne (tgt := 86) hx hb dX6_wants_80 (by decide) (fun c_34 => ?_) (fun c_34 => ?_)
            · rw [if_neg c_34] at h
              refine lv_aload_n hx hb dX6_wants_86 rfl (lv_at hl 1 rfl) ?_
              refine va_get (D := (dC, dI)) (ci := 6) (v := .ref (am 13)) (C := RX6) (T := TX6) (N := 29) hx hb hts jX6_wants_X6 hown hKz hP 0 mw_0 rfl 15 (by decide) (hts (.fieldLink RX6 47 "LendThreadsModel" "want" "[I") (by decide +kernel)) (fun _ h9 => h9) rfl dX6_wants_87 ?_
              refine lv_iconst (v := 4) hx hb dX6_wants_90 (by decide) ?_
              refine lv_iload hx hb dX6_wants_91 (lv_at hl 0 rfl) ?_
              refine lv_imul hx hb dX6_wants_93 ?_
              refine lv_aload_n hx hb dX6_wants_94 rfl (lv_at hl 1 rfl) ?_
              refine va_get (D := (dC, dI)) (ci := 6) (v := .ref (am 12)) (C := RX6) (T := TX6) (N := 29) hx hb hts jX6_wants_X6 hown hKz hP 0 mw_0 rfl 14 (by decide) (hts (.fieldLink RX6 44 "LendThreadsModel" "wantCount" "[I") (by decide +kernel)) (fun _ h9 => h9) rfl dX6_wants_95 ?_
              refine lv_iload hx hb dX6_wants_98 (lv_at hl 0 rfl) ?_
              obtain ⟨g_35, h⟩ := gd_some h
              refine va_iald hx hb hKz hP 12 0 (mw_arr (k := 12) (by decide) (by decide) (by decide)) rfl (inb_in g_35) dX6_wants_100 ?_
              refine lv_iadd hx hb dX6_wants_101 ?_
              refine lv_iload_n hx hb dX6_wants_102 rfl (lv_at hl 4 rfl) ?_
              refine lv_if_eq (tgt := 114) hx hb dX6_wants_103 (by decide) (fun c_36 => ?_) (fun c_36 => ?_)
              · rw [if_pos c_36] at h
                refine lv_iload hx hb dX6_wants_114 (lv_at hl 5 rfl) ?_
                obtain ⟨g_37, h⟩ := gd_some h
                refine va_iast hx hb hKz hP hD hS 13 0 (mw_arr (k := 13) (by decide) (by decide) (by decide)) rfl (inb_in g_37) dX6_wants_116 (fun H locs hP _ hS => ?_)
                have hP : va_P (dC, dI) vwCl (mW cI cZ am (up2 M_1 13 (((4 * ((10 * p1) + p2)) + (M_1 12 ((10 * p1) + p2).toNatClampNeg)).toNatClampNeg) p4)) H := by show va_P (dC, dI) vwCl (cwl 24 am (encM cI cZ am (up2 M_1 13 (((4 * ((10 * p1) + p2)) + (M_1 12 ((10 * p1) + p2).toNatClampNeg)).toNatClampNeg) p4))) H; rw [← em_arr (k := 13) (by decide) (by decide), ← cwl_set (by decide)]; exact hP
                have hD := cwl_D hI (encM cI cZ am (up2 M_1 13 (((4 * ((10 * p1) + p2)) + (M_1 12 ((10 * p1) + p2).toNatClampNeg)).toNatClampNeg) p4))
                generalize up2 M_1 13 (((4 * ((10 * p1) + p2)) + (M_1 12 ((10 * p1) + p2).toNatClampNeg)).toNatClampNeg) p4 = M_38 at hP hD h
                replace h := bm_e h
                try dsimp only at h
                refine lv_aload_n hx hb dX6_wants_117 rfl (lv_at hl 1 rfl) ?_
                refine va_get (D := (dC, dI)) (ci := 6) (v := .ref (am 12)) (C := RX6) (T := TX6) (N := 29) hx hb hts jX6_wants_X6 hown hKz hP 0 mw_0 rfl 14 (by decide) (hts (.fieldLink RX6 44 "LendThreadsModel" "wantCount" "[I") (by decide +kernel)) (fun _ h9 => h9) rfl dX6_wants_118 ?_
                refine lv_iload hx hb dX6_wants_121 (lv_at hl 0 rfl) ?_
                refine lv_dup2_11 hx hb dX6_wants_123 rfl rfl ?_
                obtain ⟨g_39, h⟩ := gd_some h
                refine va_iald hx hb hKz hP 12 0 (mw_arr (k := 12) (by decide) (by decide) (by decide)) rfl (inb_in g_39) dX6_wants_124 ?_
                refine lv_iconst (v := 1) hx hb dX6_wants_125 (by decide) ?_
                refine lv_iadd hx hb dX6_wants_126 ?_
                obtain ⟨g_40, h⟩ := gd_some h
                refine va_iast hx hb hKz hP hD hS 12 0 (mw_arr (k := 12) (by decide) (by decide) (by decide)) rfl (inb_in g_40) dX6_wants_127 (fun H locs hP _ hS => ?_)
                have hP : va_P (dC, dI) vwCl (mW cI cZ am (up2 M_38 12 (((10 * p1) + p2).toNatClampNeg) ((M_38 12 ((10 * p1) + p2).toNatClampNeg) + 1))) H := by show va_P (dC, dI) vwCl (cwl 24 am (encM cI cZ am (up2 M_38 12 (((10 * p1) + p2).toNatClampNeg) ((M_38 12 ((10 * p1) + p2).toNatClampNeg) + 1)))) H; rw [← em_arr (k := 12) (by decide) (by decide), ← cwl_set (by decide)]; exact hP
                have hD := cwl_D hI (encM cI cZ am (up2 M_38 12 (((10 * p1) + p2).toNatClampNeg) ((M_38 12 ((10 * p1) + p2).toNatClampNeg) + 1)))
                generalize up2 M_38 12 (((10 * p1) + p2).toNatClampNeg) ((M_38 12 ((10 * p1) + p2).toNatClampNeg) + 1) = M_41 at hP hD h
                replace h := bm_e h
                try dsimp only at h
                refine lv_aload_n hx hb dX6_wants_128 rfl (lv_at hl 1 rfl) ?_
                refine va_get (D := (dC, dI)) (ci := 6) (v := .ref (am 12)) (C := RX6) (T := TX6) (N := 29) hx hb hts jX6_wants_X6 hown hKz hP 0 mw_0 rfl 14 (by decide) (hts (.fieldLink RX6 44 "LendThreadsModel" "wantCount" "[I") (by decide +kernel)) (fun _ h9 => h9) rfl dX6_wants_129 ?_
                refine lv_iload hx hb dX6_wants_132 (lv_at hl 0 rfl) ?_
                obtain ⟨g_42, h⟩ := gd_some h
                refine va_iald hx hb hKz hP 12 0 (mw_arr (k := 12) (by decide) (by decide) (by decide)) rfl (inb_in g_42) dX6_wants_134 ?_
                replace h := Option.some.inj h
                subst h
                exact W.iret (v := (M_41 12 ((10 * p1) + p2).toNatClampNeg)) hx hb hr (fun t ht hW => ⟨⟨_, _, rfl, ⟨rfl, rfl⟩, (show va_P (dC, dI) vwCl (mW cI cZ am M_41) t.heap by rw [ht]; exact hP)⟩, hS.F ht⟩) hS.2.2 dX6_wants_135
              · rw [if_neg c_36] at h
                refine lv_bipush (v := 100) hx hb dX6_wants_106 (by decide) ?_
                refine lv_iload hx hb dX6_wants_108 (lv_at hl 5 rfl) ?_
                refine lv_iadd hx hb dX6_wants_110 ?_
                refine lv_goto (tgt := 116) hx hb dX6_wants_111 (by decide) ?_
                obtain ⟨g_43, h⟩ := gd_some h
                refine va_iast hx hb hKz hP hD hS 13 0 (mw_arr (k := 13) (by decide) (by decide) (by decide)) rfl (inb_in g_43) dX6_wants_116 (fun H locs hP _ hS => ?_)
                have hP : va_P (dC, dI) vwCl (mW cI cZ am (up2 M_1 13 (((4 * ((10 * p1) + p2)) + (M_1 12 ((10 * p1) + p2).toNatClampNeg)).toNatClampNeg) (100 + p4))) H := by show va_P (dC, dI) vwCl (cwl 24 am (encM cI cZ am (up2 M_1 13 (((4 * ((10 * p1) + p2)) + (M_1 12 ((10 * p1) + p2).toNatClampNeg)).toNatClampNeg) (100 + p4)))) H; rw [← em_arr (k := 13) (by decide) (by decide), ← cwl_set (by decide)]; exact hP
                have hD := cwl_D hI (encM cI cZ am (up2 M_1 13 (((4 * ((10 * p1) + p2)) + (M_1 12 ((10 * p1) + p2).toNatClampNeg)).toNatClampNeg) (100 + p4)))
                generalize up2 M_1 13 (((4 * ((10 * p1) + p2)) + (M_1 12 ((10 * p1) + p2).toNatClampNeg)).toNatClampNeg) (100 + p4) = M_44 at hP hD h
                replace h := bm_e h
                try dsimp only at h
                refine lv_aload_n hx hb dX6_wants_117 rfl (lv_at hl 1 rfl) ?_
                refine va_get (D := (dC, dI)) (ci := 6) (v := .ref (am 12)) (C := RX6) (T := TX6) (N := 29) hx hb hts jX6_wants_X6 hown hKz hP 0 mw_0 rfl 14 (by decide) (hts (.fieldLink RX6 44 "LendThreadsModel" "wantCount" "[I") (by decide +kernel)) (fun _ h9 => h9) rfl dX6_wants_118 ?_
                refine lv_iload hx hb dX6_wants_121 (lv_at hl 0 rfl) ?_
                refine lv_dup2_11 hx hb dX6_wants_123 rfl rfl ?_
                obtain ⟨g_45, h⟩ := gd_some h
                refine va_iald hx hb hKz hP 12 0 (mw_arr (k := 12) (by decide) (by decide) (by decide)) rfl (inb_in g_45) dX6_wants_124 ?_
                refine lv_iconst (v := 1) hx hb dX6_wants_125 (by decide) ?_
                refine lv_iadd hx hb dX6_wants_126 ?_
                obtain ⟨g_46, h⟩ := gd_some h
                refine va_iast hx hb hKz hP hD hS 12 0 (mw_arr (k := 12) (by decide) (by decide) (by decide)) rfl (inb_in g_46) dX6_wants_127 (fun H locs hP _ hS => ?_)
                have hP : va_P (dC, dI) vwCl (mW cI cZ am (up2 M_44 12 (((10 * p1) + p2).toNatClampNeg) ((M_44 12 ((10 * p1) + p2).toNatClampNeg) + 1))) H := by show va_P (dC, dI) vwCl (cwl 24 am (encM cI cZ am (up2 M_44 12 (((10 * p1) + p2).toNatClampNeg) ((M_44 12 ((10 * p1) + p2).toNatClampNeg) + 1)))) H; rw [← em_arr (k := 12) (by decide) (by decide), ← cwl_set (by decide)]; exact hP
                have hD := cwl_D hI (encM cI cZ am (up2 M_44 12 (((10 * p1) + p2).toNatClampNeg) ((M_44 12 ((10 * p1) + p2).toNatClampNeg) + 1)))
                generalize up2 M_44 12 (((10 * p1) + p2).toNatClampNeg) ((M_44 12 ((10 * p1) + p2).toNatClampNeg) + 1) = M_47 at hP hD h
                replace h := bm_e h
                try dsimp only at h
                refine lv_aload_n hx hb dX6_wants_128 rfl (lv_at hl 1 rfl) ?_
                refine va_get (D := (dC, dI)) (ci := 6) (v := .ref (am 12)) (C := RX6) (T := TX6) (N := 29) hx hb hts jX6_wants_X6 hown hKz hP 0 mw_0 rfl 14 (by decide) (hts (.fieldLink RX6 44 "LendThreadsModel" "wantCount" "[I") (by decide +kernel)) (fun _ h9 => h9) rfl dX6_wants_129 ?_
                refine lv_iload hx hb dX6_wants_132 (lv_at hl 0 rfl) ?_
                obtain ⟨g_48, h⟩ := gd_some h
                refine va_iald hx hb hKz hP 12 0 (mw_arr (k := 12) (by decide) (by decide) (by decide)) rfl (inb_in g_48) dX6_wants_134 ?_
                replace h := Option.some.inj h
                subst h
                exact W.iret (v := (M_47 12 ((10 * p1) + p2).toNatClampNeg)) hx hb hr (fun t ht hW => ⟨⟨_, _, rfl, ⟨rfl, rfl⟩, (show va_P (dC, dI) vwCl (mW cI cZ am M_47) t.heap by rw [ht]; exact hP)⟩, hS.F ht⟩) hS.2.2 dX6_wants_135
            · rw [if_pos c_34] at h
              refine lv_bipush (v := (-4)) hx hb dX6_wants_83 (by decide) ?_
              replace h := Option.some.inj h
              subst h
              exact W.iret (v := (-4)) hx hb hr (fun t ht hW => ⟨⟨_, _, rfl, ⟨rfl, rfl⟩, (show va_P (dC, dI) vwCl (mW cI cZ am M_1) t.heap by rw [ht]; exact hP)⟩, hS.F ht⟩) hS.2.2 dX6_wants_85
          · rw [if_neg c_32] at h
            refine lv_bipush (v := (-3)) hx hb dX6_wants_61 (by decide) ?_
            replace h := Option.some.inj h
            subst h
            exact W.iret (v := (-3)) hx hb hr (fun t ht hW => ⟨⟨_, _, rfl, ⟨rfl, rfl⟩, (show va_P (dC, dI) vwCl (mW cI cZ am M_1) t.heap by rw [ht]; exact hP)⟩, hS.F ht⟩) hS.2.2 dX6_wants_63
        · rw [if_pos c_30] at h
          refine lv_goto (tgt := 49) hx hb dX6_wants_35 (by decide) ?_
          refine lv_bipush (v := (-2)) hx hb dX6_wants_49 (by decide) ?_
          replace h := Option.some.inj h
          subst h
          exact W.iret (v := (-2)) hx hb hr (fun t ht hW => ⟨⟨_, _, rfl, ⟨rfl, rfl⟩, (show va_P (dC, dI) vwCl (mW cI cZ am M_1) t.heap by rw [ht]; exact hP)⟩, hS.F ht⟩) hS.2.2 dX6_wants_51
  · rw [if_pos c_4] at h
    refine lv_iconst (v := (-1)) hx hb dX6_wants_14 (by decide) ?_
    replace h := Option.some.inj h
    subst h
    exact W.iret (v := (-1)) hx hb hr (fun t ht hW => ⟨⟨_, _, rfl, ⟨rfl, rfl⟩, (show va_P (dC, dI) vwCl (mW cI cZ am M_1) t.heap by rw [ht]; exact hP)⟩, hS.F ht⟩) hS.2.2 dX6_wants_15
theorem jX6_sends_X6 : ∀ w ∈ u_ws RX6 TX6 29, w ∈ wsX6_sends := by decide +kernel
def F_X6_sends (M : Mem) (p1 : Int32) (p2 : Int32) (p3 : Int32) : Option (Int32 × Mem) :=
  bm (up2 M 0 0 0) fun M_1 => bi (F_X6_isStep M_1 p1 p2) fun q_2 => (if q_2 = 0 then some ((-1), M_1) else bi (F_X6_isWork M_1 p3) fun q_5 => (if q_5 = 0 then some ((-2), M_1) else (if p3 = p1 then some ((-2), M_1) else gd (inb p1 (lm 7)) <| (if (M_1 7 p1.toNatClampNeg) = 0 then gd (inb ((10 * p1) + p2) (lm 14)) <| (if (M_1 14 ((10 * p1) + p2).toNatClampNeg) = 2 then some ((-4), M_1) else gd (inb ((10 * p1) + p2) (lm 14)) <| gd (inb ((2 * ((10 * p1) + p2)) + (M_1 14 ((10 * p1) + p2).toNatClampNeg)) (lm 15)) <| bm (up2 M_1 15 (((2 * ((10 * p1) + p2)) + (M_1 14 ((10 * p1) + p2).toNatClampNeg)).toNatClampNeg) p3) fun M_15 => gd (inb ((10 * p1) + p2) (lm 14)) <| gd (inb ((10 * p1) + p2) (lm 14)) <| bm (up2 M_15 14 (((10 * p1) + p2).toNatClampNeg) ((M_15 14 ((10 * p1) + p2).toNatClampNeg) + 1)) fun M_18 => gd (inb ((10 * p1) + p2) (lm 14)) <| some ((M_18 14 ((10 * p1) + p2).toNatClampNeg), M_18)) else some ((-3), M_1)))))
set_option maxHeartbeats 4000000 in
set_option maxRecDepth 100000 in
theorem k_X6_sends (l : Launch) (dC : Nat → ClassId) (dI : Nat → Nat → Nat) (cI cZ : ClassId) (am : Nat → Nat) (hI : Inj 24 am) (M : Mem) (p1 : Int32) (p2 : Int32) (p3 : Int32) (q : Int32 × Mem) (h : F_X6_sends M p1 p2 p3 = some q) : Met l yX6_sends wsX6_sends ({ frames := 3, cells := 0, slots := 0, locals := 65 }) (gm dC dI cI cZ am M [.ref (am 0), .int p1, .int p2, .int p3]) (va_Qi (fun x M' => x = q.1 ∧ M' = q.2) (fun M' t => va_P (dC, dI) vwCl (mW cI cZ am M') t.heap) (Ac 24 am)) 0 0 (Ac 24 am) := by
  refine Met.ofW (cc := cX6_sends) (maxL := 5) (ret := (some .int)) (by decide) rfl ?_
  intro p e s m args below meth c s₁ B hml hv
  obtain ⟨rfl, hP, hKK, hKz⟩ := hv
  have hx := B.exec
  have hb := B.bytes
  have hr := B.returns
  have hts := atoms_spec (ws := wsX6_sends) B.pre
  have hown : s.vm.findClass RX6 = some m.cls := findClass_of_methodNamed B.named
  have hlocks := B.notSynchronized
  have hD := cwl_D hI (encM cI cZ am M)
  have hS : va_S (Ac 24 am) s.heap s.heap [] := va_S.rf
  have hl := lv_entry ([.ref (am 0), .int p1, .int p2, .int p3]) (n := 5) (Nat.le_of_ble_eq_true rfl)
  rw [lg_entry_eq]
  generalize (lg_sl ([.ref (am 0), .int p1, .int p2, .int p3]) ++ List.replicate (5 - (lg_sl ([.ref (am 0), .int p1, .int p2, .int p3])).length) Slot.unset).toArray = ls at hl ⊢
  have hl : lv_has ls 5 [(0, .ref (am 0)), (1, .int p1), (2, .int p2), (3, .int p3)] := hl
  unfold F_X6_sends at h
  refine lv_aload_n hx hb dX6_sends_0 rfl (lv_at hl 0 rfl) ?_
  refine lv_iconst (v := 0) hx hb dX6_sends_1 (by decide) ?_
  refine va_put (D := (dC, dI)) (ci := 6) (v := .int 0) (ty := .int) (C := RX6) (T := TX6) (N := 29) hx hb hts jX6_sends_X6 tyX6 tyX6_ok nmX6 hown hKz hP hD hS 0 mw_0 rfl 0 (by decide) (hts (.fieldLink RX6 80 "LendThreadsModel" "thrown" "I") (by decide +kernel)) (fun _ h9 => h9) rfl (by decide +kernel) rfl rfl (Nat.le_of_ble_eq_true rfl) dX6_sends_2 (fun H locs hP _ hS => ?_)
  have hP : va_P (dC, dI) vwCl (mW cI cZ am (up2 M 0 0 0)) H := by show va_P (dC, dI) vwCl (cwl 24 am (encM cI cZ am (up2 M 0 0 0))) H; rw [← em_thrown, ← cwl_set (by decide)]; exact hP
  have hD := cwl_D hI (encM cI cZ am (up2 M 0 0 0))
  generalize up2 M 0 0 0 = M_1 at hP hD h
  replace h := bm_e h
  try dsimp only at h
  refine lv_aload_n hx hb dX6_sends_5 rfl (lv_at hl 0 rfl) ?_
  refine lv_iload_n hx hb dX6_sends_6 rfl (lv_at hl 1 rfl) ?_
  refine lv_iload_n hx hb dX6_sends_7 rfl (lv_at hl 2 rfl) ?_
  obtain ⟨q_2, hq_2, h⟩ := bi_some h
  refine vp_callSi (va_Run.run (va_runV (As := [.int p1, .int p2]) (rest := []) ⟨hx, hb, hml, hown, hts⟩ (k_X6_isStep l dC dI cI cZ am hI M_1 p1 p2 q_2 hq_2) (cwV 2 hts gX6_sends_X6_isStep rfl rfl rfl (by decide +kernel) ⟨Nat.le_of_ble_eq_true rfl, Nat.le_of_ble_eq_true rfl⟩) (gm_preV hKK hKz hP (va_recv hKz hP (ci := 6) (q0 := 0) rfl mw_0)) rfl rfl hl.1 rfl (lv_room (Nat.le_of_ble_eq_true rfl)) dX6_sends_8 ⟨Nat.zero_le _, Nat.zero_le _⟩)) (fun r_3 hr_3 => ?_)
  replace hr_3 := hr_3.symm
  subst hr_3
  refine lv_if_ne (tgt := 16) hx hb dX6_sends_11 (by decide) (fun c_4 => ?_) (fun c_4 => ?_)
  · rw [if_neg c_4] at h
    refine lv_aload_n hx hb dX6_sends_16 rfl (lv_at hl 0 rfl) ?_
    refine lv_iload_n hx hb dX6_sends_17 rfl (lv_at hl 3 rfl) ?_
    obtain ⟨q_5, hq_5, h⟩ := bi_some h
    refine vp_callSi (va_Run.run (va_runV (As := [.int p3]) (rest := []) ⟨hx, hb, hml, hown, hts⟩ (k_X6_isWork l dC dI cI cZ am hI M_1 p3 q_5 hq_5) (cwV 1 hts gX6_sends_X6_isWork rfl rfl rfl (by decide +kernel) ⟨Nat.le_of_ble_eq_true rfl, Nat.le_of_ble_eq_true rfl⟩) (gm_preV hKK hKz hP (va_recv hKz hP (ci := 6) (q0 := 0) rfl mw_0)) rfl rfl hl.1 rfl (lv_room (Nat.le_of_ble_eq_true rfl)) dX6_sends_18 ⟨Nat.zero_le _, Nat.zero_le _⟩)) (fun r_6 hr_6 => ?_)
    replace hr_6 := hr_6.symm
    subst hr_6
    refine lv_if_eq (tgt := 29) hx hb dX6_sends_21 (by decide) (fun c_7 => ?_) (fun c_7 => ?_)
    · rw [if_pos c_7] at h
      refine lv_bipush (v := (-2)) hx hb dX6_sends_29 (by decide) ?_
      replace h := Option.some.inj h
      subst h
      exact W.iret (v := (-2)) hx hb hr (fun t ht hW => ⟨⟨_, _, rfl, ⟨rfl, rfl⟩, (show va_P (dC, dI) vwCl (mW cI cZ am M_1) t.heap by rw [ht]; exact hP)⟩, hS.F ht⟩) hS.2.2 dX6_sends_31
    · rw [if_neg c_7] at h
      refine lv_iload_n hx hb dX6_sends_24 rfl (lv_at hl 3 rfl) ?_
      refine lv_iload_n hx hb dX6_sends_25 rfl (lv_at hl 1 rfl) ?_
      refine lv_icmp_ne (tgt := 32) hx hb dX6_sends_26 (by decide) (fun c_8 => ?_) (fun c_8 => ?_)
      · rw [if_neg c_8] at h
        refine lv_aload_n hx hb dX6_sends_32 rfl (lv_at hl 0 rfl) ?_
        refine va_get (D := (dC, dI)) (ci := 6) (v := .ref (am 7)) (C := RX6) (T := TX6) (N := 29) hx hb hts jX6_sends_X6 hown hKz hP 0 mw_0 rfl 8 (by decide) (hts (.fieldLink RX6 28 "LendThreadsModel" "begun" "[Z") (by decide +kernel)) (fun _ h9 => h9) rfl dX6_sends_33 ?_
        refine lv_iload_n hx hb dX6_sends_36 rfl (lv_at hl 1 rfl) ?_
        obtain ⟨g_9, h⟩ := gd_some h
        refine va_zald hx hb hKz hP 7 1 mw_z rfl (inb_in g_9) dX6_sends_37 ?_
        refine lv_if_eq (tgt := 44) hx hb dX6_sends_38 (by decide) (fun c_10 => ?_) (fun c_10 => ?_)
        · rw [if_pos c_10] at h
          refine lv_bipush (v := 10) hx hb dX6_sends_44 (by decide) ?_
          refine lv_iload_n hx hb dX6_sends_46 rfl (lv_at hl 1 rfl) ?_
          refine lv_imul hx hb dX6_sends_47 ?_
          refine lv_iload_n hx hb dX6_sends_48 rfl (lv_at hl 2 rfl) ?_
          refine lv_iadd hx hb dX6_sends_49 ?_
          refine lv_istore (lv' := [(4, .int ((10 * p1) + p2)), (0, .ref (am 0)), (1, .int p1), (2, .int p2), (3, .int p3)]) hx hb dX6_sends_50 hl (by decide) rfl (fun ls hl => ?_)
          refine lv_aload_n hx hb dX6_sends_52 rfl (lv_at hl 1 rfl) ?_
          refine va_get (D := (dC, dI)) (ci := 6) (v := .ref (am 14)) (C := RX6) (T := TX6) (N := 29) hx hb hts jX6_sends_X6 hown hKz hP 0 mw_0 rfl 16 (by decide) (hts (.fieldLink RX6 50 "LendThreadsModel" "sendCount" "[I") (by decide +kernel)) (fun _ h9 => h9) rfl dX6_sends_53 ?_
          refine lv_iload hx hb dX6_sends_56 (lv_at hl 0 rfl) ?_
          obtain ⟨g_11, h⟩ := gd_some h
          refine va_iald hx hb hKz hP 14 0 (mw_arr (k := 14) (by decide) (by decide) (by decide)) rfl (inb_in g_11) dX6_sends_58 ?_
          refine lv_iconst (v := 2) hx hb dX6_sends_59 (by decide) ?_
          refine lv_icmp_ne (tgt := 66) hx hb dX6_sends_60 (by decide) (fun c_12 => ?_) (fun c_12 => ?_)
          · rw [if_neg c_12] at h
            refine lv_aload_n hx hb dX6_sends_66 rfl (lv_at hl 1 rfl) ?_
            refine va_get (D := (dC, dI)) (ci := 6) (v := .ref (am 15)) (C := RX6) (T := TX6) (N := 29) hx hb hts jX6_sends_X6 hown hKz hP 0 mw_0 rfl 17 (by decide) (hts (.fieldLink RX6 53 "LendThreadsModel" "send" "[I") (by decide +kernel)) (fun _ h9 => h9) rfl dX6_sends_67 ?_
            refine lv_iconst (v := 2) hx hb dX6_sends_70 (by decide) ?_
            refine lv_iload hx hb dX6_sends_71 (lv_at hl 0 rfl) ?_
            refine lv_imul hx hb dX6_sends_73 ?_
            refine lv_aload_n hx hb dX6_sends_74 rfl (lv_at hl 1 rfl) ?_
            refine va_get (D := (dC, dI)) (ci := 6) (v := .ref (am 14)) (C := RX6) (T := TX6) (N := 29) hx hb hts jX6_sends_X6 hown hKz hP 0 mw_0 rfl 16 (by decide) (hts (.fieldLink RX6 50 "LendThreadsModel" "sendCount" "[I") (by decide +kernel)) (fun _ h9 => h9) rfl dX6_sends_75 ?_
            refine lv_iload hx hb dX6_sends_78 (lv_at hl 0 rfl) ?_
            obtain ⟨g_13, h⟩ := gd_some h
            refine va_iald hx hb hKz hP 14 0 (mw_arr (k := 14) (by decide) (by decide) (by decide)) rfl (inb_in g_13) dX6_sends_80 ?_
            refine lv_iadd hx hb dX6_sends_81 ?_
            refine lv_iload_n hx hb dX6_sends_82 rfl (lv_at hl 4 rfl) ?_
            obtain ⟨g_14, h⟩ := gd_some h
            refine va_iast hx hb hKz hP hD hS 15 0 (mw_arr (k := 15) (by decide) (by decide) (by decide)) rfl (inb_in g_14) dX6_sends_83 (fun H locs hP _ hS => ?_)
            have hP : va_P (dC, dI) vwCl (mW cI cZ am (up2 M_1 15 (((2 * ((10 * p1) + p2)) + (M_1 14 ((10 * p1) + p2).toNatClampNeg)).toNatClampNeg) p3)) H := by show va_P (dC, dI) vwCl (cwl 24 am (encM cI cZ am (up2 M_1 15 (((2 * ((10 * p1) + p2)) + (M_1 14 ((10 * p1) + p2).toNatClampNeg)).toNatClampNeg) p3))) H; rw [← em_arr (k := 15) (by decide) (by decide), ← cwl_set (by decide)]; exact hP
            have hD := cwl_D hI (encM cI cZ am (up2 M_1 15 (((2 * ((10 * p1) + p2)) + (M_1 14 ((10 * p1) + p2).toNatClampNeg)).toNatClampNeg) p3))
            generalize up2 M_1 15 (((2 * ((10 * p1) + p2)) + (M_1 14 ((10 * p1) + p2).toNatClampNeg)).toNatClampNeg) p3 = M_15 at hP hD h
            replace h := bm_e h
            try dsimp only at h
            refine lv_aload_n hx hb dX6_sends_84 rfl (lv_at hl 1 rfl) ?_
            refine va_get (D := (dC, dI)) (ci := 6) (v := .ref (am 14)) (C := RX6) (T := TX6) (N := 29) hx hb hts jX6_sends_X6 hown hKz hP 0 mw_0 rfl 16 (by decide) (hts (.fieldLink RX6 50 "LendThreadsModel" "sendCount" "[I") (by decide +kernel)) (fun _ h9 => h9) rfl dX6_sends_85 ?_
            refine lv_iload hx hb dX6_sends_88 (lv_at hl 0 rfl) ?_
            refine lv_dup2_11 hx hb dX6_sends_90 rfl rfl ?_
            obtain ⟨g_16, h⟩ := gd_some h
            refine va_iald hx hb hKz hP 14 0 (mw_arr (k := 14) (by decide) (by decide) (by decide)) rfl (inb_in g_16) dX6_sends_91 ?_
            refine lv_iconst (v := 1) hx hb dX6_sends_92 (by decide) ?_
            refine lv_iadd hx hb dX6_sends_93 ?_
            obtain ⟨g_17, h⟩ := gd_some h
            refine va_iast hx hb hKz hP hD hS 14 0 (mw_arr (k := 14) (by decide) (by decide) (by decide)) rfl (inb_in g_17) dX6_sends_94 (fun H locs hP _ hS => ?_)
            have hP : va_P (dC, dI) vwCl (mW cI cZ am (up2 M_15 14 (((10 * p1) + p2).toNatClampNeg) ((M_15 14 ((10 * p1) + p2).toNatClampNeg) + 1))) H := by show va_P (dC, dI) vwCl (cwl 24 am (encM cI cZ am (up2 M_15 14 (((10 * p1) + p2).toNatClampNeg) ((M_15 14 ((10 * p1) + p2).toNatClampNeg) + 1)))) H; rw [← em_arr (k := 14) (by decide) (by decide), ← cwl_set (by decide)]; exact hP
            have hD := cwl_D hI (encM cI cZ am (up2 M_15 14 (((10 * p1) + p2).toNatClampNeg) ((M_15 14 ((10 * p1) + p2).toNatClampNeg) + 1)))
            generalize up2 M_15 14 (((10 * p1) + p2).toNatClampNeg) ((M_15 14 ((10 * p1) + p2).toNatClampNeg) + 1) = M_18 at hP hD h
            replace h := bm_e h
            try dsimp only at h
            refine lv_aload_n hx hb dX6_sends_95 rfl (lv_at hl 1 rfl) ?_
            refine va_get (D := (dC, dI)) (ci := 6) (v := .ref (am 14)) (C := RX6) (T := TX6) (N := 29) hx hb hts jX6_sends_X6 hown hKz hP 0 mw_0 rfl 16 (by decide) (hts (.fieldLink RX6 50 "LendThreadsModel" "sendCount" "[I") (by decide +kernel)) (fun _ h9 => h9) rfl dX6_sends_96 ?_
            refine lv_iload hx hb dX6_sends_99 (lv_at hl 0 rfl) ?_
            obtain ⟨g_19, h⟩ := gd_some h
            refine va_iald hx hb hKz hP 14 0 (mw_arr (k := 14) (by decide) (by decide) (by decide)) rfl (inb_in g_19) dX6_sends_101 ?_
            replace h := Option.some.inj h
            subst h
            exact W.iret (v := (M_18 14 ((10 * p1) + p2).toNatClampNeg)) hx hb hr (fun t ht hW => ⟨⟨_, _, rfl, ⟨rfl, rfl⟩, (show va_P (dC, dI) vwCl (mW cI cZ am M_18) t.heap by rw [ht]; exact hP)⟩, hS.F ht⟩) hS.2.2 dX6_sends_102
          · rw [if_pos c_12] at h
            refine lv_bipush (v := (-4)) hx hb dX6_sends_63 (by decide) ?_
            replace h := Option.some.inj h
            subst h
            exact W.iret (v := (-4)) hx hb hr (fun t ht hW => ⟨⟨_, _, rfl, ⟨rfl, rfl⟩, (show va_P (dC, dI) vwCl (mW cI cZ am M_1) t.heap by rw [ht]; exact hP)⟩, hS.F ht⟩) hS.2.2 dX6_sends_65
        · rw [if_neg c_10] at h
          refine lv_bipush (v := (-3)) hx hb dX6_sends_41 (by decide) ?_
          replace h := Option.some.inj h
          subst h
          exact W.iret (v := (-3)) hx hb hr (fun t ht hW => ⟨⟨_, _, rfl, ⟨rfl, rfl⟩, (show va_P (dC, dI) vwCl (mW cI cZ am M_1) t.heap by rw [ht]; exact hP)⟩, hS.F ht⟩) hS.2.2 dX6_sends_43
      · rw [if_pos c_8] at h
        refine lv_bipush (v := (-2)) hx hb dX6_sends_29 (by decide) ?_
        replace h := Option.some.inj h
        subst h
        exact W.iret (v := (-2)) hx hb hr (fun t ht hW => ⟨⟨_, _, rfl, ⟨rfl, rfl⟩, (show va_P (dC, dI) vwCl (mW cI cZ am M_1) t.heap by rw [ht]; exact hP)⟩, hS.F ht⟩) hS.2.2 dX6_sends_31
  · rw [if_pos c_4] at h
    refine lv_iconst (v := (-1)) hx hb dX6_sends_14 (by decide) ?_
    replace h := Option.some.inj h
    subst h
    exact W.iret (v := (-1)) hx hb hr (fun t ht hW => ⟨⟨_, _, rfl, ⟨rfl, rfl⟩, (show va_P (dC, dI) vwCl (mW cI cZ am M_1) t.heap by rw [ht]; exact hP)⟩, hS.F ht⟩) hS.2.2 dX6_sends_15
theorem jX6_loses_X6 : ∀ w ∈ u_ws RX6 TX6 29, w ∈ wsX6_loses := by decide +kernel
def F_X6_loses (M : Mem) (p1 : Int32) : Option (Int32 × Mem) :=
  bm (up2 M 0 0 0) fun M_1 => bi (F_X6_in M_1 p1 0 100) fun q_2 => (if q_2 = 0 then some ((-2), M_1) else bm (up2 M_1 0 22 p1) fun M_5 => some (1, M_5))
set_option maxHeartbeats 4000000 in
set_option maxRecDepth 100000 in
theorem k_X6_loses (l : Launch) (dC : Nat → ClassId) (dI : Nat → Nat → Nat) (cI cZ : ClassId) (am : Nat → Nat) (hI : Inj 24 am) (M : Mem) (p1 : Int32) (q : Int32 × Mem) (h : F_X6_loses M p1 = some q) : Met l yX6_loses wsX6_loses ({ frames := 1, cells := 0, slots := 0, locals := 22 }) (gm dC dI cI cZ am M [.ref (am 0), .int p1]) (va_Qi (fun x M' => x = q.1 ∧ M' = q.2) (fun M' t => va_P (dC, dI) vwCl (mW cI cZ am M') t.heap) (Ac 24 am)) 0 0 (Ac 24 am) := by
  refine Met.ofW (cc := cX6_loses) (maxL := 2) (ret := (some .int)) (by decide) rfl ?_
  intro p e s m args below meth c s₁ B hml hv
  obtain ⟨rfl, hP, hKK, hKz⟩ := hv
  have hx := B.exec
  have hb := B.bytes
  have hr := B.returns
  have hts := atoms_spec (ws := wsX6_loses) B.pre
  have hown : s.vm.findClass RX6 = some m.cls := findClass_of_methodNamed B.named
  have hlocks := B.notSynchronized
  have hD := cwl_D hI (encM cI cZ am M)
  have hS : va_S (Ac 24 am) s.heap s.heap [] := va_S.rf
  have hl := lv_entry ([.ref (am 0), .int p1]) (n := 2) (Nat.le_of_ble_eq_true rfl)
  rw [lg_entry_eq]
  generalize (lg_sl ([.ref (am 0), .int p1]) ++ List.replicate (2 - (lg_sl ([.ref (am 0), .int p1])).length) Slot.unset).toArray = ls at hl ⊢
  have hl : lv_has ls 2 [(0, .ref (am 0)), (1, .int p1)] := hl
  unfold F_X6_loses at h
  refine lv_aload_n hx hb dX6_loses_0 rfl (lv_at hl 0 rfl) ?_
  refine lv_iconst (v := 0) hx hb dX6_loses_1 (by decide) ?_
  refine va_put (D := (dC, dI)) (ci := 6) (v := .int 0) (ty := .int) (C := RX6) (T := TX6) (N := 29) hx hb hts jX6_loses_X6 tyX6 tyX6_ok nmX6 hown hKz hP hD hS 0 mw_0 rfl 0 (by decide) (hts (.fieldLink RX6 80 "LendThreadsModel" "thrown" "I") (by decide +kernel)) (fun _ h9 => h9) rfl (by decide +kernel) rfl rfl (Nat.le_of_ble_eq_true rfl) dX6_loses_2 (fun H locs hP _ hS => ?_)
  have hP : va_P (dC, dI) vwCl (mW cI cZ am (up2 M 0 0 0)) H := by show va_P (dC, dI) vwCl (cwl 24 am (encM cI cZ am (up2 M 0 0 0))) H; rw [← em_thrown, ← cwl_set (by decide)]; exact hP
  have hD := cwl_D hI (encM cI cZ am (up2 M 0 0 0))
  generalize up2 M 0 0 0 = M_1 at hP hD h
  replace h := bm_e h
  try dsimp only at h
  refine lv_iload_n hx hb dX6_loses_5 rfl (lv_at hl 1 rfl) ?_
  refine lv_iconst (v := 0) hx hb dX6_loses_6 (by decide) ?_
  refine lv_bipush (v := 100) hx hb dX6_loses_7 (by decide) ?_
  obtain ⟨q_2, hq_2, h⟩ := bi_some h
  refine vp_callSi (va_Run.run (va_runS (As := [.int p1, .int 0, .int 100]) (rest := []) ⟨hx, hb, hml, hown, hts⟩ (k_X6_in l dC dI cI cZ am hI M_1 p1 0 100 q_2 hq_2) (va_cwS 3 hts gX6_loses_X6_in rfl rfl rfl (by decide +kernel) ⟨Nat.le_of_ble_eq_true rfl, Nat.le_of_ble_eq_true rfl⟩) (gm_preS hKK hKz hP) rfl rfl hl.1 rfl (lv_room (Nat.le_of_ble_eq_true rfl)) dX6_loses_9 ⟨Nat.zero_le _, Nat.zero_le _⟩)) (fun r_3 hr_3 => ?_)
  replace hr_3 := hr_3.symm
  subst hr_3
  refine lv_if_ne (tgt := 18) hx hb dX6_loses_12 (by decide) (fun c_4 => ?_) (fun c_4 => ?_)
  · rw [if_neg c_4] at h
    refine lv_aload_n hx hb dX6_loses_18 rfl (lv_at hl 0 rfl) ?_
    refine lv_iload_n hx hb dX6_loses_19 rfl (lv_at hl 1 rfl) ?_
    refine va_put (D := (dC, dI)) (ci := 6) (v := .int p1) (ty := .int) (C := RX6) (T := TX6) (N := 29) hx hb hts jX6_loses_X6 tyX6 tyX6_ok nmX6 hown hKz hP hD hS 0 mw_0 rfl 22 (by decide) (hts (.fieldLink RX6 99 "LendThreadsModel" "losing" "I") (by decide +kernel)) (fun _ h9 => h9) rfl (by decide +kernel) rfl rfl (Nat.le_of_ble_eq_true rfl) dX6_loses_20 (fun H locs hP _ hS => ?_)
    have hP : va_P (dC, dI) vwCl (mW cI cZ am (up2 M_1 0 22 p1)) H := by show va_P (dC, dI) vwCl (cwl 24 am (encM cI cZ am (up2 M_1 0 22 p1))) H; rw [← em_losing, ← cwl_set (by decide)]; exact hP
    have hD := cwl_D hI (encM cI cZ am (up2 M_1 0 22 p1))
    generalize up2 M_1 0 22 p1 = M_5 at hP hD h
    replace h := bm_e h
    try dsimp only at h
    refine lv_iconst (v := 1) hx hb dX6_loses_23 (by decide) ?_
    replace h := Option.some.inj h
    subst h
    exact W.iret (v := 1) hx hb hr (fun t ht hW => ⟨⟨_, _, rfl, ⟨rfl, rfl⟩, (show va_P (dC, dI) vwCl (mW cI cZ am M_5) t.heap by rw [ht]; exact hP)⟩, hS.F ht⟩) hS.2.2 dX6_loses_24
  · rw [if_pos c_4] at h
    refine lv_bipush (v := (-2)) hx hb dX6_loses_15 (by decide) ?_
    replace h := Option.some.inj h
    subst h
    exact W.iret (v := (-2)) hx hb hr (fun t ht hW => ⟨⟨_, _, rfl, ⟨rfl, rfl⟩, (show va_P (dC, dI) vwCl (mW cI cZ am M_1) t.heap by rw [ht]; exact hP)⟩, hS.F ht⟩) hS.2.2 dX6_loses_17
theorem jX6_turn_X6 : ∀ w ∈ u_ws RX6 TX6 29, w ∈ wsX6_turn := by decide +kernel
def F_X6_turn (M : Mem) (p1 : Int32) : Option (Int32 × Mem) :=
  bm (up2 M 0 0 0) fun M_1 => bi (F_X6_does M_1 p1) fun q_2 => some (q_2.1, q_2.2)
set_option maxHeartbeats 4000000 in
set_option maxRecDepth 100000 in
theorem k_X6_turn (l : Launch) (dC : Nat → ClassId) (dI : Nat → Nat → Nat) (cI cZ : ClassId) (am : Nat → Nat) (hI : Inj 24 am) (M : Mem) (p1 : Int32) (q : Int32 × Mem) (h : F_X6_turn M p1 = some q) : Met l yX6_turn wsX6_turn ({ frames := 3, cells := 0, slots := 0, locals := 70 }) (gm dC dI cI cZ am M [.ref (am 0), .int p1]) (va_Qi (fun x M' => x = q.1 ∧ M' = q.2) (fun M' t => va_P (dC, dI) vwCl (mW cI cZ am M') t.heap) (Ac 24 am)) 0 0 (Ac 24 am) := by
  refine Met.ofW (cc := cX6_turn) (maxL := 2) (ret := (some .int)) (by decide) rfl ?_
  intro p e s m args below meth c s₁ B hml hv
  obtain ⟨rfl, hP, hKK, hKz⟩ := hv
  have hx := B.exec
  have hb := B.bytes
  have hr := B.returns
  have hts := atoms_spec (ws := wsX6_turn) B.pre
  have hown : s.vm.findClass RX6 = some m.cls := findClass_of_methodNamed B.named
  have hlocks := B.notSynchronized
  have hD := cwl_D hI (encM cI cZ am M)
  have hS : va_S (Ac 24 am) s.heap s.heap [] := va_S.rf
  have hl := lv_entry ([.ref (am 0), .int p1]) (n := 2) (Nat.le_of_ble_eq_true rfl)
  rw [lg_entry_eq]
  generalize (lg_sl ([.ref (am 0), .int p1]) ++ List.replicate (2 - (lg_sl ([.ref (am 0), .int p1])).length) Slot.unset).toArray = ls at hl ⊢
  have hl : lv_has ls 2 [(0, .ref (am 0)), (1, .int p1)] := hl
  unfold F_X6_turn at h
  refine lv_aload_n hx hb dX6_turn_0 rfl (lv_at hl 0 rfl) ?_
  refine lv_iconst (v := 0) hx hb dX6_turn_1 (by decide) ?_
  refine va_put (D := (dC, dI)) (ci := 6) (v := .int 0) (ty := .int) (C := RX6) (T := TX6) (N := 29) hx hb hts jX6_turn_X6 tyX6 tyX6_ok nmX6 hown hKz hP hD hS 0 mw_0 rfl 0 (by decide) (hts (.fieldLink RX6 80 "LendThreadsModel" "thrown" "I") (by decide +kernel)) (fun _ h9 => h9) rfl (by decide +kernel) rfl rfl (Nat.le_of_ble_eq_true rfl) dX6_turn_2 (fun H locs hP _ hS => ?_)
  have hP : va_P (dC, dI) vwCl (mW cI cZ am (up2 M 0 0 0)) H := by show va_P (dC, dI) vwCl (cwl 24 am (encM cI cZ am (up2 M 0 0 0))) H; rw [← em_thrown, ← cwl_set (by decide)]; exact hP
  have hD := cwl_D hI (encM cI cZ am (up2 M 0 0 0))
  generalize up2 M 0 0 0 = M_1 at hP hD h
  replace h := bm_e h
  try dsimp only at h
  refine lv_aload_n hx hb dX6_turn_5 rfl (lv_at hl 0 rfl) ?_
  refine lv_iload_n hx hb dX6_turn_6 rfl (lv_at hl 1 rfl) ?_
  obtain ⟨q_2, hq_2, h⟩ := bi_some h
  refine va_calli (va_runV (As := [.int p1]) (rest := []) ⟨hx, hb, hml, hown, hts⟩ (k_X6_does l dC dI cI cZ am hI M_1 p1 q_2 hq_2) (cwV 1 hts gX6_turn_X6_does rfl rfl rfl (by decide +kernel) ⟨Nat.le_of_ble_eq_true rfl, Nat.le_of_ble_eq_true rfl⟩) (gm_preV hKK hKz hP (va_recv hKz hP (ci := 6) (q0 := 0) rfl mw_0)) rfl rfl hl.1 rfl (lv_room (Nat.le_of_ble_eq_true rfl)) dX6_turn_7 ⟨Nat.zero_le _, Nat.zero_le _⟩) hS (fun q _ h => h) (fun q h => h) (fun r_3 M_4 t H locs ht hvm hw hP hz1 hk1 hS => ?_)
  obtain ⟨h1, h2⟩ := hw
  subst h1 h2
  rw [ht] at hP
  have hD := cwl_D hI (encM cI cZ am q_2.2)
  replace h := Option.some.inj h
  subst h
  exact W.iret (v := q_2.1) hx hb hr (fun t ht hW => ⟨⟨_, _, rfl, ⟨rfl, rfl⟩, (show va_P (dC, dI) vwCl (mW cI cZ am q_2.2) t.heap by rw [ht]; exact hP)⟩, hS.F ht⟩) hS.2.2 dX6_turn_10
theorem jX6_run_X6 : ∀ w ∈ u_ws RX6 TX6 29, w ∈ wsX6_run := by decide +kernel
def L_X6_run_17 (K : Mem → Int32 → Int32 → Int32 → Option (Int32 × Mem))  : Nat → Mem → Int32 → Int32 → Int32 → Option (Int32 × Mem)
  | 0, _, _, _, _ => none
  | n + 1, M_4, v1_17, v2_17, v3_17 => (if (M_4 0 1) ≤ v3_17 then K M_4 v1_17 v2_17 v3_17 else bi (F_X6_does M_4 v3_17) fun q_6 => (if q_6.1 = 2 then (if v2_17 = 0 then (if q_6.1 = 0 then L_X6_run_17 K  n q_6.2 (v1_17 + 1) 0 (v3_17 + 1) else (if q_6.1 = 3 then L_X6_run_17 K  n q_6.2 (v1_17 + 1) 0 (v3_17 + 1) else (if q_6.1 = 4 then L_X6_run_17 K  n q_6.2 (v1_17 + 1) 0 (v3_17 + 1) else L_X6_run_17 K  n q_6.2 (v1_17 + 1) 1 (v3_17 + 1)))) else L_X6_run_17 K  n q_6.2 (v1_17 + 1) 1 (v3_17 + 1)) else (if v2_17 = 0 then (if q_6.1 = 0 then L_X6_run_17 K  n q_6.2 (v1_17 + 0) 0 (v3_17 + 1) else (if q_6.1 = 3 then L_X6_run_17 K  n q_6.2 (v1_17 + 0) 0 (v3_17 + 1) else (if q_6.1 = 4 then L_X6_run_17 K  n q_6.2 (v1_17 + 0) 0 (v3_17 + 1) else L_X6_run_17 K  n q_6.2 (v1_17 + 0) 1 (v3_17 + 1)))) else L_X6_run_17 K  n q_6.2 (v1_17 + 0) 1 (v3_17 + 1))))
def L_X6_run_9 (K : Mem → Int32 → Int32 → Option (Int32 × Mem))  : Nat → Mem → Int32 → Int32 → Option (Int32 × Mem)
  | 0, _, _, _ => none
  | n + 1, M_2, v1_9, v2_9 => (if v2_9 = 0 then K M_2 v1_9 v2_9 else L_X6_run_17 (fun M_4 v1_17 v2_17 v3_17 => L_X6_run_9 K  n M_4 v1_17 v2_17)  4000 M_2 v1_9 0 0)
def F_X6_run (M : Mem) : Option (Int32 × Mem) :=
  bm (up2 M 0 0 0) fun M_1 => L_X6_run_9 (fun M_2 v1_9 v2_9 => some (v1_9, M_2))  100000 M_1 0 1
set_option maxHeartbeats 4000000 in
set_option maxRecDepth 100000 in
theorem k_X6_run (l : Launch) (dC : Nat → ClassId) (dI : Nat → Nat → Nat) (cI cZ : ClassId) (am : Nat → Nat) (hI : Inj 24 am) (M : Mem) (q : Int32 × Mem) (h : F_X6_run M  = some q) : Met l yX6_run wsX6_run ({ frames := 3, cells := 0, slots := 0, locals := 70 }) (gm dC dI cI cZ am M [.ref (am 0)]) (va_Qi (fun x M' => x = q.1 ∧ M' = q.2) (fun M' t => va_P (dC, dI) vwCl (mW cI cZ am M') t.heap) (Ac 24 am)) 0 0 (Ac 24 am) := by
  refine Met.ofW (cc := cX6_run) (maxL := 5) (ret := (some .int)) (by decide) rfl ?_
  intro p e s m args below meth c s₁ B hml hv
  obtain ⟨rfl, hP, hKK, hKz⟩ := hv
  have hx := B.exec
  have hb := B.bytes
  have hr := B.returns
  have hts := atoms_spec (ws := wsX6_run) B.pre
  have hown : s.vm.findClass RX6 = some m.cls := findClass_of_methodNamed B.named
  have hlocks := B.notSynchronized
  have hD := cwl_D hI (encM cI cZ am M)
  have hS : va_S (Ac 24 am) s.heap s.heap [] := va_S.rf
  have hl := lv_entry ([.ref (am 0)]) (n := 5) (Nat.le_of_ble_eq_true rfl)
  rw [lg_entry_eq]
  generalize (lg_sl ([.ref (am 0)]) ++ List.replicate (5 - (lg_sl ([.ref (am 0)])).length) Slot.unset).toArray = ls at hl ⊢
  have hl : lv_has ls 5 [(0, .ref (am 0))] := hl
  unfold F_X6_run at h
  refine lv_aload_n hx hb dX6_run_0 rfl (lv_at hl 0 rfl) ?_
  refine lv_iconst (v := 0) hx hb dX6_run_1 (by decide) ?_
  refine va_put (D := (dC, dI)) (ci := 6) (v := .int 0) (ty := .int) (C := RX6) (T := TX6) (N := 29) hx hb hts jX6_run_X6 tyX6 tyX6_ok nmX6 hown hKz hP hD hS 0 mw_0 rfl 0 (by decide) (hts (.fieldLink RX6 80 "LendThreadsModel" "thrown" "I") (by decide +kernel)) (fun _ h9 => h9) rfl (by decide +kernel) rfl rfl (Nat.le_of_ble_eq_true rfl) dX6_run_2 (fun H locs hP _ hS => ?_)
  have hP : va_P (dC, dI) vwCl (mW cI cZ am (up2 M 0 0 0)) H := by show va_P (dC, dI) vwCl (cwl 24 am (encM cI cZ am (up2 M 0 0 0))) H; rw [← em_thrown, ← cwl_set (by decide)]; exact hP
  have hD := cwl_D hI (encM cI cZ am (up2 M 0 0 0))
  generalize up2 M 0 0 0 = M_1 at hP hD h
  replace h := bm_e h
  try dsimp only at h
  refine lv_iconst (v := 0) hx hb dX6_run_5 (by decide) ?_
  refine lv_istore_n (lv' := [(1, .int 0), (0, .ref (am 0))]) hx hb dX6_run_6 rfl hl (by decide) rfl (fun ls hl => ?_)
  refine lv_iconst (v := 1) hx hb dX6_run_7 (by decide) ?_
  refine lv_istore_n (lv' := [(2, .int 1), (1, .int 0), (0, .ref (am 0))]) hx hb dX6_run_8 rfl hl (by decide) rfl (fun ls hl => ?_)
  have key9 : ∀ (K : Mem → Int32 → Int32 → Option (Int32 × Mem)), (∀ (M_2 : Mem) (v1_9 v2_9 : Int32) (H : Heap) (locs : List Loc) (ls : Array Slot), K M_2 v1_9 v2_9 = some q → va_P (dC, dI) vwCl (mW cI cZ am M_2) H → va_S (Ac 24 am) s.heap H locs → lv_has ls 5 [(2, .int v2_9), (1, .int v1_9), (0, .ref (am 0))] → W p l e (headSpec wsX6_run ({ frames := 3, cells := 0, slots := 0, locals := 70 })).room s m ([.ref (am 0)] : List Value).toArray below meth c H locs 0 0 (MQ below (va_Qi (fun x M' => x = q.1 ∧ M' = q.2) (fun M' t => va_P (dC, dI) vwCl (mW cI cZ am M') t.heap) (Ac 24 am)) ([.ref (am 0)] : List Value).toArray s 0 0 (Ac 24 am)) (F0 m 82 ls [])) → ∀ (n : Nat), ∀ (M_2 : Mem) (v1_9 v2_9 : Int32) (H : Heap) (locs : List Loc) (ls : Array Slot), L_X6_run_9 K  n M_2 v1_9 v2_9 = some q → va_P (dC, dI) vwCl (mW cI cZ am M_2) H → va_S (Ac 24 am) s.heap H locs → lv_has ls 5 [(2, .int v2_9), (1, .int v1_9), (0, .ref (am 0))] → W p l e (headSpec wsX6_run ({ frames := 3, cells := 0, slots := 0, locals := 70 })).room s m ([.ref (am 0)] : List Value).toArray below meth c H locs 0 0 (MQ below (va_Qi (fun x M' => x = q.1 ∧ M' = q.2) (fun M' t => va_P (dC, dI) vwCl (mW cI cZ am M') t.heap) (Ac 24 am)) ([.ref (am 0)] : List Value).toArray s 0 0 (Ac 24 am)) (F0 m 9 ls []) := by
    intro K hk n
    induction n with
    | zero =>
      intro M_2 v1_9 v2_9 H locs ls h
      exact absurd h (by simp [L_X6_run_9])
    | succ n ih =>
      intro M_2 v1_9 v2_9 H locs ls h hP hS hl
      have hD := cwl_D hI (encM cI cZ am M_2)
      simp only [L_X6_run_9] at h
      refine lv_iload_n hx hb dX6_run_9 rfl (lv_at hl 0 rfl) ?_
      refine lv_if_eq (tgt := 82) hx hb dX6_run_10 (by decide) (fun c_3 => ?_) (fun c_3 => ?_)
      · rw [if_pos c_3] at h
        exact hk M_2 v1_9 v2_9 _ _ _ h hP hS (lv_sub hl [0, 1, 2] rfl)
      · rw [if_neg c_3] at h
        refine lv_iconst (v := 0) hx hb dX6_run_13 (by decide) ?_
        refine lv_istore_n (lv' := [(2, .int 0), (1, .int v1_9), (0, .ref (am 0))]) hx hb dX6_run_14 rfl hl (by decide) rfl (fun ls hl => ?_)
        refine lv_iconst (v := 0) hx hb dX6_run_15 (by decide) ?_
        refine lv_istore_n (lv' := [(3, .int 0), (2, .int 0), (1, .int v1_9), (0, .ref (am 0))]) hx hb dX6_run_16 rfl hl (by decide) rfl (fun ls hl => ?_)
        have key17 : ∀ (K : Mem → Int32 → Int32 → Int32 → Option (Int32 × Mem)), (∀ (M_4 : Mem) (v1_17 v2_17 v3_17 : Int32) (H : Heap) (locs : List Loc) (ls : Array Slot), K M_4 v1_17 v2_17 v3_17 = some q → va_P (dC, dI) vwCl (mW cI cZ am M_4) H → va_S (Ac 24 am) s.heap H locs → lv_has ls 5 [(3, .int v3_17), (2, .int v2_17), (1, .int v1_17), (0, .ref (am 0))] → W p l e (headSpec wsX6_run ({ frames := 3, cells := 0, slots := 0, locals := 70 })).room s m ([.ref (am 0)] : List Value).toArray below meth c H locs 0 0 (MQ below (va_Qi (fun x M' => x = q.1 ∧ M' = q.2) (fun M' t => va_P (dC, dI) vwCl (mW cI cZ am M') t.heap) (Ac 24 am)) ([.ref (am 0)] : List Value).toArray s 0 0 (Ac 24 am)) (F0 m 79 ls [])) → ∀ (n : Nat), ∀ (M_4 : Mem) (v1_17 v2_17 v3_17 : Int32) (H : Heap) (locs : List Loc) (ls : Array Slot), L_X6_run_17 K  n M_4 v1_17 v2_17 v3_17 = some q → va_P (dC, dI) vwCl (mW cI cZ am M_4) H → va_S (Ac 24 am) s.heap H locs → lv_has ls 5 [(3, .int v3_17), (2, .int v2_17), (1, .int v1_17), (0, .ref (am 0))] → W p l e (headSpec wsX6_run ({ frames := 3, cells := 0, slots := 0, locals := 70 })).room s m ([.ref (am 0)] : List Value).toArray below meth c H locs 0 0 (MQ below (va_Qi (fun x M' => x = q.1 ∧ M' = q.2) (fun M' t => va_P (dC, dI) vwCl (mW cI cZ am M') t.heap) (Ac 24 am)) ([.ref (am 0)] : List Value).toArray s 0 0 (Ac 24 am)) (F0 m 17 ls []) := by
          intro K hk n
          induction n with
          | zero =>
            intro M_4 v1_17 v2_17 v3_17 H locs ls h
            exact absurd h (by simp [L_X6_run_17])
          | succ n ih =>
            intro M_4 v1_17 v2_17 v3_17 H locs ls h hP hS hl
            have hD := cwl_D hI (encM cI cZ am M_4)
            simp only [L_X6_run_17] at h
            refine lv_iload_n hx hb dX6_run_17 rfl (lv_at hl 0 rfl) ?_
            refine lv_aload_n hx hb dX6_run_18 rfl (lv_at hl 3 rfl) ?_
            refine va_get (D := (dC, dI)) (ci := 6) (v := .int (M_4 0 1)) (C := RX6) (T := TX6) (N := 29) hx hb hts jX6_run_X6 hown hKz hP 0 mw_0 rfl 1 (by decide) (hts (.fieldLink RX6 84 "LendThreadsModel" "works" "I") (by decide +kernel)) (fun _ h9 => h9) rfl dX6_run_19 ?_
            refine lv_icmp_ge (tgt := 79) hx hb dX6_run_22 (by decide) (fun c_5 => ?_) (fun c_5 => ?_)
            · rw [if_pos c_5] at h
              exact hk M_4 v1_17 v2_17 v3_17 _ _ _ h hP hS (lv_sub hl [0, 1, 2, 3] rfl)
            · rw [if_neg c_5] at h
              refine lv_aload_n hx hb dX6_run_25 rfl (lv_at hl 3 rfl) ?_
              refine lv_iload_n hx hb dX6_run_26 rfl (lv_at hl 0 rfl) ?_
              obtain ⟨q_6, hq_6, h⟩ := bi_some h
              refine va_calli (va_runV (As := [.int v3_17]) (rest := []) ⟨hx, hb, hml, hown, hts⟩ (k_X6_does l dC dI cI cZ am hI M_4 v3_17 q_6 hq_6) (cwV 1 hts gX6_run_X6_does rfl rfl rfl (by decide +kernel) ⟨Nat.le_of_ble_eq_true rfl, Nat.le_of_ble_eq_true rfl⟩) (gm_preV hKK hKz hP (va_recv hKz hP (ci := 6) (q0 := 0) rfl mw_0)) rfl rfl hl.1 rfl (lv_room (Nat.le_of_ble_eq_true rfl)) dX6_run_27 ⟨Nat.zero_le _, Nat.zero_le _⟩) hS (fun q _ h => h) (fun q h => h) (fun r_7 M_8 t H locs ht hvm hw hP hz1 hk1 hS => ?_)
              obtain ⟨h1, h2⟩ := hw
              subst h1 h2
              rw [ht] at hP
              have hD := cwl_D hI (encM cI cZ am q_6.2)
              refine lv_istore (lv' := [(4, .int q_6.1), (3, .int v3_17), (2, .int v2_17), (1, .int v1_17), (0, .ref (am 0))]) hx hb dX6_run_30 hl (by decide) rfl (fun ls hl => ?_)
              refine lv_iload_n hx hb dX6_run_32 rfl (lv_at hl 3 rfl) ?_
              refine lv_iload hx hb dX6_run_33 (lv_at hl 0 rfl) ?_
              refine lv_iconst (v := 2) hx hb dX6_run_35 (by decide) ?_
              refine lv_icmp_ne (tgt := 43) hx hb dX6_run_36 (by decide) (fun c_9 => ?_) (fun c_9 => ?_)
              · rw [if_neg c_9] at h
                refine lv_iconst (v := 0) hx hb dX6_run_43 (by decide) ?_
                refine lv_iadd hx hb dX6_run_44 ?_
                refine lv_istore_n (lv' := [(1, .int (v1_17 + 0)), (4, .int q_6.1), (3, .int v3_17), (2, .int v2_17), (0, .ref (am 0))]) hx hb dX6_run_45 rfl hl (by decide) rfl (fun ls hl => ?_)
                refine lv_iload_n hx hb dX6_run_46 rfl (lv_at hl 3 rfl) ?_
                refine lv_if_ne (tgt := 67) hx hb dX6_run_47 (by decide) (fun c_10 => ?_) (fun c_10 => ?_)
                · rw [if_neg c_10] at h
                  refine lv_iconst (v := 1) hx hb dX6_run_67 (by decide) ?_
                  refine lv_goto (tgt := 72) hx hb dX6_run_68 (by decide) ?_
                  refine lv_istore_n (lv' := [(2, .int 1), (1, .int (v1_17 + 0)), (4, .int q_6.1), (3, .int v3_17), (0, .ref (am 0))]) hx hb dX6_run_72 rfl hl (by decide) rfl (fun ls hl => ?_)
                  refine lv_iinc (v := v3_17 + 1) (lv' := [(3, .int (v3_17 + 1)), (2, .int 1), (1, .int (v1_17 + 0)), (4, .int q_6.1), (0, .ref (am 0))]) hx hb dX6_run_73 hl (k := 3) rfl rfl (by decide) rfl (fun ls hl => ?_)
                  refine lv_goto (tgt := 17) hx hb dX6_run_76 (by decide) ?_
                  exact ih q_6.2 (v1_17 + 0) 1 (v3_17 + 1) _ _ _ h hP hS (lv_sub hl [0, 1, 2, 4] rfl)
                · rw [if_pos c_10] at h
                  refine lv_iload hx hb dX6_run_50 (lv_at hl 1 rfl) ?_
                  refine lv_if_eq (tgt := 71) hx hb dX6_run_52 (by decide) (fun c_11 => ?_) (fun c_11 => ?_)
                  · rw [if_pos c_11] at h
                    refine lv_iconst (v := 0) hx hb dX6_run_71 (by decide) ?_
                    refine lv_istore_n (lv' := [(2, .int 0), (1, .int (v1_17 + 0)), (4, .int q_6.1), (3, .int v3_17), (0, .ref (am 0))]) hx hb dX6_run_72 rfl hl (by decide) rfl (fun ls hl => ?_)
                    refine lv_iinc (v := v3_17 + 1) (lv' := [(3, .int (v3_17 + 1)), (2, .int 0), (1, .int (v1_17 + 0)), (4, .int q_6.1), (0, .ref (am 0))]) hx hb dX6_run_73 hl (k := 3) rfl rfl (by decide) rfl (fun ls hl => ?_)
                    refine lv_goto (tgt := 17) hx hb dX6_run_76 (by decide) ?_
                    exact ih q_6.2 (v1_17 + 0) 0 (v3_17 + 1) _ _ _ h hP hS (lv_sub hl [0, 1, 2, 4] rfl)
                  · rw [if_neg c_11] at h
                    refine lv_iload hx hb dX6_run_55 (lv_at hl 1 rfl) ?_
                    refine lv_iconst (v := 3) hx hb dX6_run_57 (by decide) ?_
                    refine lv_icmp_eq (tgt := 71) hx hb dX6_run_58 (by decide) (fun c_12 => ?_) (fun c_12 => ?_)
                    · rw [if_pos c_12] at h
                      refine lv_iconst (v := 0) hx hb dX6_run_71 (by decide) ?_
                      refine lv_istore_n (lv' := [(2, .int 0), (1, .int (v1_17 + 0)), (4, .int q_6.1), (3, .int v3_17), (0, .ref (am 0))]) hx hb dX6_run_72 rfl hl (by decide) rfl (fun ls hl => ?_)
                      refine lv_iinc (v := v3_17 + 1) (lv' := [(3, .int (v3_17 + 1)), (2, .int 0), (1, .int (v1_17 + 0)), (4, .int q_6.1), (0, .ref (am 0))]) hx hb dX6_run_73 hl (k := 3) rfl rfl (by decide) rfl (fun ls hl => ?_)
                      refine lv_goto (tgt := 17) hx hb dX6_run_76 (by decide) ?_
                      exact ih q_6.2 (v1_17 + 0) 0 (v3_17 + 1) _ _ _ h hP hS (lv_sub hl [0, 1, 2, 4] rfl)
                    · rw [if_neg c_12] at h
                      refine lv_iload hx hb dX6_run_61 (lv_at hl 1 rfl) ?_
                      refine lv_iconst (v := 4) hx hb dX6_run_63 (by decide) ?_
                      refine lv_icmp_eq (tgt := 71) hx hb dX6_run_64 (by decide) (fun c_13 => ?_) (fun c_13 => ?_)
                      · rw [if_pos c_13] at h
                        refine lv_iconst (v := 0) hx hb dX6_run_71 (by decide) ?_
                        refine lv_istore_n (lv' := [(2, .int 0), (1, .int (v1_17 + 0)), (4, .int q_6.1), (3, .int v3_17), (0, .ref (am 0))]) hx hb dX6_run_72 rfl hl (by decide) rfl (fun ls hl => ?_)
                        refine lv_iinc (v := v3_17 + 1) (lv' := [(3, .int (v3_17 + 1)), (2, .int 0), (1, .int (v1_17 + 0)), (4, .int q_6.1), (0, .ref (am 0))]) hx hb dX6_run_73 hl (k := 3) rfl rfl (by decide) rfl (fun ls hl => ?_)
                        refine lv_goto (tgt := 17) hx hb dX6_run_76 (by decide) ?_
                        exact ih q_6.2 (v1_17 + 0) 0 (v3_17 + 1) _ _ _ h hP hS (lv_sub hl [0, 1, 2, 4] rfl)
                      · rw [if_neg c_13] at h
                        refine lv_iconst (v := 1) hx hb dX6_run_67 (by decide) ?_
                        refine lv_goto (tgt := 72) hx hb dX6_run_68 (by decide) ?_
                        refine lv_istore_n (lv' := [(2, .int 1), (1, .int (v1_17 + 0)), (4, .int q_6.1), (3, .int v3_17), (0, .ref (am 0))]) hx hb dX6_run_72 rfl hl (by decide) rfl (fun ls hl => ?_)
                        refine lv_iinc (v := v3_17 + 1) (lv' := [(3, .int (v3_17 + 1)), (2, .int 1), (1, .int (v1_17 + 0)), (4, .int q_6.1), (0, .ref (am 0))]) hx hb dX6_run_73 hl (k := 3) rfl rfl (by decide) rfl (fun ls hl => ?_)
                        refine lv_goto (tgt := 17) hx hb dX6_run_76 (by decide) ?_
                        exact ih q_6.2 (v1_17 + 0) 1 (v3_17 + 1) _ _ _ h hP hS (lv_sub hl [0, 1, 2, 4] rfl)
              · rw [if_pos c_9] at h
                refine lv_iconst (v := 1) hx hb dX6_run_39 (by decide) ?_
                refine lv_goto (tgt := 44) hx hb dX6_run_40 (by decide) ?_
                refine lv_iadd hx hb dX6_run_44 ?_
                refine lv_istore_n (lv' := [(1, .int (v1_17 + 1)), (4, .int q_6.1), (3, .int v3_17), (2, .int v2_17), (0, .ref (am 0))]) hx hb dX6_run_45 rfl hl (by decide) rfl (fun ls hl => ?_)
                refine lv_iload_n hx hb dX6_run_46 rfl (lv_at hl 3 rfl) ?_
                refine lv_if_ne (tgt := 67) hx hb dX6_run_47 (by decide) (fun c_14 => ?_) (fun c_14 => ?_)
                · rw [if_neg c_14] at h
                  refine lv_iconst (v := 1) hx hb dX6_run_67 (by decide) ?_
                  refine lv_goto (tgt := 72) hx hb dX6_run_68 (by decide) ?_
                  refine lv_istore_n (lv' := [(2, .int 1), (1, .int (v1_17 + 1)), (4, .int q_6.1), (3, .int v3_17), (0, .ref (am 0))]) hx hb dX6_run_72 rfl hl (by decide) rfl (fun ls hl => ?_)
                  refine lv_iinc (v := v3_17 + 1) (lv' := [(3, .int (v3_17 + 1)), (2, .int 1), (1, .int (v1_17 + 1)), (4, .int q_6.1), (0, .ref (am 0))]) hx hb dX6_run_73 hl (k := 3) rfl rfl (by decide) rfl (fun ls hl => ?_)
                  refine lv_goto (tgt := 17) hx hb dX6_run_76 (by decide) ?_
                  exact ih q_6.2 (v1_17 + 1) 1 (v3_17 + 1) _ _ _ h hP hS (lv_sub hl [0, 1, 2, 4] rfl)
                · rw [if_pos c_14] at h
                  refine lv_iload hx hb dX6_run_50 (lv_at hl 1 rfl) ?_
                  refine lv_if_eq (tgt := 71) hx hb dX6_run_52 (by decide) (fun c_15 => ?_) (fun c_15 => ?_)
                  · rw [if_pos c_15] at h
                    refine lv_iconst (v := 0) hx hb dX6_run_71 (by decide) ?_
                    refine lv_istore_n (lv' := [(2, .int 0), (1, .int (v1_17 + 1)), (4, .int q_6.1), (3, .int v3_17), (0, .ref (am 0))]) hx hb dX6_run_72 rfl hl (by decide) rfl (fun ls hl => ?_)
                    refine lv_iinc (v := v3_17 + 1) (lv' := [(3, .int (v3_17 + 1)), (2, .int 0), (1, .int (v1_17 + 1)), (4, .int q_6.1), (0, .ref (am 0))]) hx hb dX6_run_73 hl (k := 3) rfl rfl (by decide) rfl (fun ls hl => ?_)
                    refine lv_goto (tgt := 17) hx hb dX6_run_76 (by decide) ?_
                    exact ih q_6.2 (v1_17 + 1) 0 (v3_17 + 1) _ _ _ h hP hS (lv_sub hl [0, 1, 2, 4] rfl)
                  · rw [if_neg c_15] at h
                    refine lv_iload hx hb dX6_run_55 (lv_at hl 1 rfl) ?_
                    refine lv_iconst (v := 3) hx hb dX6_run_57 (by decide) ?_
                    refine lv_icmp_eq (tgt := 71) hx hb dX6_run_58 (by decide) (fun c_16 => ?_) (fun c_16 => ?_)
                    · rw [if_pos c_16] at h
                      refine lv_iconst (v := 0) hx hb dX6_run_71 (by decide) ?_
                      refine lv_istore_n (lv' := [(2, .int 0), (1, .int (v1_17 + 1)), (4, .int q_6.1), (3, .int v3_17), (0, .ref (am 0))]) hx hb dX6_run_72 rfl hl (by decide) rfl (fun ls hl => ?_)
                      refine lv_iinc (v := v3_17 + 1) (lv' := [(3, .int (v3_17 + 1)), (2, .int 0), (1, .int (v1_17 + 1)), (4, .int q_6.1), (0, .ref (am 0))]) hx hb dX6_run_73 hl (k := 3) rfl rfl (by decide) rfl (fun ls hl => ?_)
                      refine lv_goto (tgt := 17) hx hb dX6_run_76 (by decide) ?_
                      exact ih q_6.2 (v1_17 + 1) 0 (v3_17 + 1) _ _ _ h hP hS (lv_sub hl [0, 1, 2, 4] rfl)
                    · rw [if_neg c_16] at h
                      refine lv_iload hx hb dX6_run_61 (lv_at hl 1 rfl) ?_
                      refine lv_iconst (v := 4) hx hb dX6_run_63 (by decide) ?_
                      refine lv_icmp_eq (tgt := 71) hx hb dX6_run_64 (by decide) (fun c_17 => ?_) (fun c_17 => ?_)
                      · rw [if_pos c_17] at h
                        refine lv_iconst (v := 0) hx hb dX6_run_71 (by decide) ?_
                        refine lv_istore_n (lv' := [(2, .int 0), (1, .int (v1_17 + 1)), (4, .int q_6.1), (3, .int v3_17), (0, .ref (am 0))]) hx hb dX6_run_72 rfl hl (by decide) rfl (fun ls hl => ?_)
                        refine lv_iinc (v := v3_17 + 1) (lv' := [(3, .int (v3_17 + 1)), (2, .int 0), (1, .int (v1_17 + 1)), (4, .int q_6.1), (0, .ref (am 0))]) hx hb dX6_run_73 hl (k := 3) rfl rfl (by decide) rfl (fun ls hl => ?_)
                        refine lv_goto (tgt := 17) hx hb dX6_run_76 (by decide) ?_
                        exact ih q_6.2 (v1_17 + 1) 0 (v3_17 + 1) _ _ _ h hP hS (lv_sub hl [0, 1, 2, 4] rfl)
                      · rw [if_neg c_17] at h
                        refine lv_iconst (v := 1) hx hb dX6_run_67 (by decide) ?_
                        refine lv_goto (tgt := 72) hx hb dX6_run_68 (by decide) ?_
                        refine lv_istore_n (lv' := [(2, .int 1), (1, .int (v1_17 + 1)), (4, .int q_6.1), (3, .int v3_17), (0, .ref (am 0))]) hx hb dX6_run_72 rfl hl (by decide) rfl (fun ls hl => ?_)
                        refine lv_iinc (v := v3_17 + 1) (lv' := [(3, .int (v3_17 + 1)), (2, .int 1), (1, .int (v1_17 + 1)), (4, .int q_6.1), (0, .ref (am 0))]) hx hb dX6_run_73 hl (k := 3) rfl rfl (by decide) rfl (fun ls hl => ?_)
                        refine lv_goto (tgt := 17) hx hb dX6_run_76 (by decide) ?_
                        exact ih q_6.2 (v1_17 + 1) 1 (v3_17 + 1) _ _ _ h hP hS (lv_sub hl [0, 1, 2, 4] rfl)
        refine key17 _ (fun M_4 v1_17 v2_17 v3_17 H locs ls h hP hS hl => ?_) 4000 M_2 v1_9 0 0 _ _ _ h hP hS (lv_sub hl [0, 1, 2, 3] rfl)
        have hD := cwl_D hI (encM cI cZ am M_4)
        try dsimp only at h
        refine lv_goto (tgt := 9) hx hb dX6_run_79 (by decide) ?_
        exact ih M_4 v1_17 v2_17 _ _ _ h hP hS (lv_sub hl [1, 2, 3] rfl)
  refine key9 _ (fun M_2 v1_9 v2_9 H locs ls h hP hS hl => ?_) 100000 M_1 0 1 _ _ _ h hP hS (lv_sub hl [0, 1, 2] rfl)
  have hD := cwl_D hI (encM cI cZ am M_2)
  try dsimp only at h
  refine lv_iload_n hx hb dX6_run_82 rfl (lv_at hl 1 rfl) ?_
  replace h := Option.some.inj h
  subst h
  exact W.iret (v := v1_9) hx hb hr (fun t ht hW => ⟨⟨_, _, rfl, ⟨rfl, rfl⟩, (show va_P (dC, dI) vwCl (mW cI cZ am M_2) t.heap by rw [ht]; exact hP)⟩, hS.F ht⟩) hS.2.2 dX6_run_83
theorem jX6_ring_X6 : ∀ w ∈ u_ws RX6 TX6 29, w ∈ wsX6_ring := by decide +kernel
def L_X6_ring_26 (K : Int32 → Int32 → Int32 → Option (Int32 × Mem)) (M_2 : Mem) (v1_7 : Int32) : Nat → Int32 → Int32 → Int32 → Option (Int32 × Mem)
  | 0, _, _, _ => none
  | n + 1, v2_26, v3_26, v4_26 => (if (M_2 0 1) ≤ v4_26 then K v2_26 v3_26 v4_26 else (if v3_26 < 0 then K v2_26 v3_26 v4_26 else (if v3_26 = v1_7 then K v2_26 v3_26 v4_26 else (if v3_26 ≤ v2_26 then bi (F_X6_waitsOn M_2 v3_26) fun q_10 => L_X6_ring_26 K M_2 v1_7 n v2_26 q_10 (v4_26 + 1) else bi (F_X6_waitsOn M_2 v3_26) fun q_12 => L_X6_ring_26 K M_2 v1_7 n v3_26 q_12 (v4_26 + 1)))))
def L_X6_ring_7 (K : Mem → Int32 → Option (Int32 × Mem))  : Nat → Mem → Int32 → Option (Int32 × Mem)
  | 0, _, _ => none
  | n + 1, M_2, v1_7 => (if (M_2 0 1) ≤ v1_7 then K M_2 v1_7 else bi (F_X6_waitsOn M_2 v1_7) fun q_4 => L_X6_ring_26 (fun v2_26 v3_26 v4_26 => (if v3_26 = v1_7 then bi (F_X6_undo M_2 v2_26 3) fun q_15 => some (v2_26, q_15) else L_X6_ring_7 K  n M_2 (v1_7 + 1))) M_2 v1_7 4000 v1_7 q_4 0)
def F_X6_ring (M : Mem) : Option (Int32 × Mem) :=
  bm (up2 M 0 0 0) fun M_1 => L_X6_ring_7 (fun M_2 v1_7 => some ((-1), M_2))  4000 M_1 0
set_option maxHeartbeats 4000000 in
set_option maxRecDepth 100000 in
theorem k_X6_ring (l : Launch) (dC : Nat → ClassId) (dI : Nat → Nat → Nat) (cI cZ : ClassId) (am : Nat → Nat) (hI : Inj 24 am) (M : Mem) (q : Int32 × Mem) (h : F_X6_ring M  = some q) : Met l yX6_ring wsX6_ring ({ frames := 2, cells := 0, slots := 0, locals := 46 }) (gm dC dI cI cZ am M [.ref (am 0)]) (va_Qi (fun x M' => x = q.1 ∧ M' = q.2) (fun M' t => va_P (dC, dI) vwCl (mW cI cZ am M') t.heap) (Ac 24 am)) 0 0 (Ac 24 am) := by
  refine Met.ofW (cc := cX6_ring) (maxL := 5) (ret := (some .int)) (by decide) rfl ?_
  intro p e s m args below meth c s₁ B hml hv
  obtain ⟨rfl, hP, hKK, hKz⟩ := hv
  have hx := B.exec
  have hb := B.bytes
  have hr := B.returns
  have hts := atoms_spec (ws := wsX6_ring) B.pre
  have hown : s.vm.findClass RX6 = some m.cls := findClass_of_methodNamed B.named
  have hlocks := B.notSynchronized
  have hD := cwl_D hI (encM cI cZ am M)
  have hS : va_S (Ac 24 am) s.heap s.heap [] := va_S.rf
  have hl := lv_entry ([.ref (am 0)]) (n := 5) (Nat.le_of_ble_eq_true rfl)
  rw [lg_entry_eq]
  generalize (lg_sl ([.ref (am 0)]) ++ List.replicate (5 - (lg_sl ([.ref (am 0)])).length) Slot.unset).toArray = ls at hl ⊢
  have hl : lv_has ls 5 [(0, .ref (am 0))] := hl
  unfold F_X6_ring at h
  refine lv_aload_n hx hb dX6_ring_0 rfl (lv_at hl 0 rfl) ?_
  refine lv_iconst (v := 0) hx hb dX6_ring_1 (by decide) ?_
  refine va_put (D := (dC, dI)) (ci := 6) (v := .int 0) (ty := .int) (C := RX6) (T := TX6) (N := 29) hx hb hts jX6_ring_X6 tyX6 tyX6_ok nmX6 hown hKz hP hD hS 0 mw_0 rfl 0 (by decide) (hts (.fieldLink RX6 80 "LendThreadsModel" "thrown" "I") (by decide +kernel)) (fun _ h9 => h9) rfl (by decide +kernel) rfl rfl (Nat.le_of_ble_eq_true rfl) dX6_ring_2 (fun H locs hP _ hS => ?_)
  have hP : va_P (dC, dI) vwCl (mW cI cZ am (up2 M 0 0 0)) H := by show va_P (dC, dI) vwCl (cwl 24 am (encM cI cZ am (up2 M 0 0 0))) H; rw [← em_thrown, ← cwl_set (by decide)]; exact hP
  have hD := cwl_D hI (encM cI cZ am (up2 M 0 0 0))
  generalize up2 M 0 0 0 = M_1 at hP hD h
  replace h := bm_e h
  try dsimp only at h
  refine lv_iconst (v := 0) hx hb dX6_ring_5 (by decide) ?_
  refine lv_istore_n (lv' := [(1, .int 0), (0, .ref (am 0))]) hx hb dX6_ring_6 rfl hl (by decide) rfl (fun ls hl => ?_)
  have key7 : ∀ (K : Mem → Int32 → Option (Int32 × Mem)), (∀ (M_2 : Mem) (v1_7 : Int32) (H : Heap) (locs : List Loc) (ls : Array Slot), K M_2 v1_7 = some q → va_P (dC, dI) vwCl (mW cI cZ am M_2) H → va_S (Ac 24 am) s.heap H locs → lv_has ls 5 [(1, .int v1_7), (0, .ref (am 0))] → W p l e (headSpec wsX6_ring ({ frames := 2, cells := 0, slots := 0, locals := 46 })).room s m ([.ref (am 0)] : List Value).toArray below meth c H locs 0 0 (MQ below (va_Qi (fun x M' => x = q.1 ∧ M' = q.2) (fun M' t => va_P (dC, dI) vwCl (mW cI cZ am M') t.heap) (Ac 24 am)) ([.ref (am 0)] : List Value).toArray s 0 0 (Ac 24 am)) (F0 m 89 ls [])) → ∀ (n : Nat), ∀ (M_2 : Mem) (v1_7 : Int32) (H : Heap) (locs : List Loc) (ls : Array Slot), L_X6_ring_7 K  n M_2 v1_7 = some q → va_P (dC, dI) vwCl (mW cI cZ am M_2) H → va_S (Ac 24 am) s.heap H locs → lv_has ls 5 [(1, .int v1_7), (0, .ref (am 0))] → W p l e (headSpec wsX6_ring ({ frames := 2, cells := 0, slots := 0, locals := 46 })).room s m ([.ref (am 0)] : List Value).toArray below meth c H locs 0 0 (MQ below (va_Qi (fun x M' => x = q.1 ∧ M' = q.2) (fun M' t => va_P (dC, dI) vwCl (mW cI cZ am M') t.heap) (Ac 24 am)) ([.ref (am 0)] : List Value).toArray s 0 0 (Ac 24 am)) (F0 m 7 ls []) := by
    intro K hk n
    induction n with
    | zero =>
      intro M_2 v1_7 H locs ls h
      exact absurd h (by simp [L_X6_ring_7])
    | succ n ih =>
      intro M_2 v1_7 H locs ls h hP hS hl
      have hD := cwl_D hI (encM cI cZ am M_2)
      simp only [L_X6_ring_7] at h
      refine lv_iload_n hx hb dX6_ring_7 rfl (lv_at hl 0 rfl) ?_
      refine lv_aload_n hx hb dX6_ring_8 rfl (lv_at hl 1 rfl) ?_
      refine va_get (D := (dC, dI)) (ci := 6) (v := .int (M_2 0 1)) (C := RX6) (T := TX6) (N := 29) hx hb hts jX6_ring_X6 hown hKz hP 0 mw_0 rfl 1 (by decide) (hts (.fieldLink RX6 84 "LendThreadsModel" "works" "I") (by decide +kernel)) (fun _ h9 => h9) rfl dX6_ring_9 ?_
      refine lv_icmp_ge (tgt := 89) hx hb dX6_ring_12 (by decide) (fun c_3 => ?_) (fun c_3 => ?_)
      · rw [if_pos c_3] at h
        exact hk M_2 v1_7 _ _ _ h hP hS (lv_sub hl [0, 1] rfl)
      · rw [if_neg c_3] at h
        refine lv_iload_n hx hb dX6_ring_15 rfl (lv_at hl 0 rfl) ?_
        refine lv_istore_n (lv' := [(2, .int v1_7), (1, .int v1_7), (0, .ref (am 0))]) hx hb dX6_ring_16 rfl hl (by decide) rfl (fun ls hl => ?_)
        refine lv_aload_n hx hb dX6_ring_17 rfl (lv_at hl 2 rfl) ?_
        refine lv_iload_n hx hb dX6_ring_18 rfl (lv_at hl 1 rfl) ?_
        obtain ⟨q_4, hq_4, h⟩ := bi_some h
        refine vp_callSi (va_Run.run (va_runV (As := [.int v1_7]) (rest := []) ⟨hx, hb, hml, hown, hts⟩ (k_X6_waitsOn l dC dI cI cZ am hI M_2 v1_7 q_4 hq_4) (cwV 1 hts gX6_ring_X6_waitsOn rfl rfl rfl (by decide +kernel) ⟨Nat.le_of_ble_eq_true rfl, Nat.le_of_ble_eq_true rfl⟩) (gm_preV hKK hKz hP (va_recv hKz hP (ci := 6) (q0 := 0) rfl mw_0)) rfl rfl hl.1 rfl (lv_room (Nat.le_of_ble_eq_true rfl)) dX6_ring_19 ⟨Nat.zero_le _, Nat.zero_le _⟩)) (fun r_5 hr_5 => ?_)
        replace hr_5 := hr_5.symm
        subst hr_5
        refine lv_istore_n (lv' := [(3, .int q_4), (2, .int v1_7), (1, .int v1_7), (0, .ref (am 0))]) hx hb dX6_ring_22 rfl hl (by decide) rfl (fun ls hl => ?_)
        refine lv_iconst (v := 0) hx hb dX6_ring_23 (by decide) ?_
        refine lv_istore (lv' := [(4, .int 0), (3, .int q_4), (2, .int v1_7), (1, .int v1_7), (0, .ref (am 0))]) hx hb dX6_ring_24 hl (by decide) rfl (fun ls hl => ?_)
        have key26 : ∀ (K : Int32 → Int32 → Int32 → Option (Int32 × Mem)), (∀ (v2_26 v3_26 v4_26 : Int32) (H : Heap) (locs : List Loc) (ls : Array Slot), K v2_26 v3_26 v4_26 = some q → va_P (dC, dI) vwCl (mW cI cZ am M_2) H → va_S (Ac 24 am) s.heap H locs → lv_has ls 5 [(4, .int v4_26), (3, .int v3_26), (2, .int v2_26), (1, .int v1_7), (0, .ref (am 0))] → W p l e (headSpec wsX6_ring ({ frames := 2, cells := 0, slots := 0, locals := 46 })).room s m ([.ref (am 0)] : List Value).toArray below meth c H locs 0 0 (MQ below (va_Qi (fun x M' => x = q.1 ∧ M' = q.2) (fun M' t => va_P (dC, dI) vwCl (mW cI cZ am M') t.heap) (Ac 24 am)) ([.ref (am 0)] : List Value).toArray s 0 0 (Ac 24 am)) (F0 m 67 ls [])) → ∀ (n : Nat), ∀ (v2_26 v3_26 v4_26 : Int32) (H : Heap) (locs : List Loc) (ls : Array Slot), L_X6_ring_26 K M_2 v1_7 n v2_26 v3_26 v4_26 = some q → va_P (dC, dI) vwCl (mW cI cZ am M_2) H → va_S (Ac 24 am) s.heap H locs → lv_has ls 5 [(4, .int v4_26), (3, .int v3_26), (2, .int v2_26), (1, .int v1_7), (0, .ref (am 0))] → W p l e (headSpec wsX6_ring ({ frames := 2, cells := 0, slots := 0, locals := 46 })).room s m ([.ref (am 0)] : List Value).toArray below meth c H locs 0 0 (MQ below (va_Qi (fun x M' => x = q.1 ∧ M' = q.2) (fun M' t => va_P (dC, dI) vwCl (mW cI cZ am M') t.heap) (Ac 24 am)) ([.ref (am 0)] : List Value).toArray s 0 0 (Ac 24 am)) (F0 m 26 ls []) := by
          intro K hk n
          induction n with
          | zero =>
            intro v2_26 v3_26 v4_26 H locs ls h
            exact absurd h (by simp [L_X6_ring_26])
          | succ n ih =>
            intro v2_26 v3_26 v4_26 H locs ls h hP hS hl
            have hD := cwl_D hI (encM cI cZ am M_2)
            simp only [L_X6_ring_26] at h
            refine lv_iload hx hb dX6_ring_26 (lv_at hl 0 rfl) ?_
            refine lv_aload_n hx hb dX6_ring_28 rfl (lv_at hl 4 rfl) ?_
            refine va_get (D := (dC, dI)) (ci := 6) (v := .int (M_2 0 1)) (C := RX6) (T := TX6) (N := 29) hx hb hts jX6_ring_X6 hown hKz hP 0 mw_0 rfl 1 (by decide) (hts (.fieldLink RX6 84 "LendThreadsModel" "works" "I") (by decide +kernel)) (fun _ h9 => h9) rfl dX6_ring_29 ?_
            refine lv_icmp_ge (tgt := 67) hx hb dX6_ring_32 (by decide) (fun c_6 => ?_) (fun c_6 => ?_)
            · rw [if_pos c_6] at h
              exact hk v2_26 v3_26 v4_26 _ _ _ h hP hS (lv_sub hl [0, 1, 2, 3, 4] rfl)
            · rw [if_neg c_6] at h
              refine lv_iload_n hx hb dX6_ring_35 rfl (lv_at hl 1 rfl) ?_
              refine lv_if_lt (tgt := 67) hx hb dX6_ring_36 (by decide) (fun c_7 => ?_) (fun c_7 => ?_)
              · rw [if_pos c_7] at h
                exact hk v2_26 v3_26 v4_26 _ _ _ h hP hS (lv_sub hl [0, 1, 2, 3, 4] rfl)
              · rw [if_neg c_7] at h
                refine lv_iload_n hx hb dX6_ring_39 rfl (lv_at hl 1 rfl) ?_
                refine lv_iload_n hx hb dX6_ring_40 rfl (lv_at hl 3 rfl) ?_
                refine lv_icmp_eq (tgt := 67) hx hb dX6_ring_41 (by decide) (fun c_8 => ?_) (fun c_8 => ?_)
                · rw [if_pos c_8] at h
                  exact hk v2_26 v3_26 v4_26 _ _ _ h hP hS (lv_sub hl [0, 1, 2, 3, 4] rfl)
                · rw [if_neg c_8] at h
                  refine lv_iload_n hx hb dX6_ring_44 rfl (lv_at hl 1 rfl) ?_
                  refine lv_iload_n hx hb dX6_ring_45 rfl (lv_at hl 2 rfl) ?_
                  refine lv_icmp_le (tgt := 53) hx hb dX6_ring_46 (by decide) (fun c_9 => ?_) (fun c_9 => ?_)
                  · rw [if_pos c_9] at h
                    refine lv_iload_n hx hb dX6_ring_53 rfl (lv_at hl 2 rfl) ?_
                    refine lv_istore_n (lv' := [(2, .int v2_26), (4, .int v4_26), (3, .int v3_26), (1, .int v1_7), (0, .ref (am 0))]) hx hb dX6_ring_54 rfl hl (by decide) rfl (fun ls hl => ?_)
                    refine lv_aload_n hx hb dX6_ring_55 rfl (lv_at hl 4 rfl) ?_
                    refine lv_iload_n hx hb dX6_ring_56 rfl (lv_at hl 2 rfl) ?_
                    obtain ⟨q_10, hq_10, h⟩ := bi_some h
                    refine vp_callSi (va_Run.run (va_runV (As := [.int v3_26]) (rest := []) ⟨hx, hb, hml, hown, hts⟩ (k_X6_waitsOn l dC dI cI cZ am hI M_2 v3_26 q_10 hq_10) (cwV 1 hts gX6_ring_X6_waitsOn rfl rfl rfl (by decide +kernel) ⟨Nat.le_of_ble_eq_true rfl, Nat.le_of_ble_eq_true rfl⟩) (gm_preV hKK hKz hP (va_recv hKz hP (ci := 6) (q0 := 0) rfl mw_0)) rfl rfl hl.1 rfl (lv_room (Nat.le_of_ble_eq_true rfl)) dX6_ring_57 ⟨Nat.zero_le _, Nat.zero_le _⟩)) (fun r_11 hr_11 => ?_)
                    replace hr_11 := hr_11.symm
                    subst hr_11
                    refine lv_istore_n (lv' := [(3, .int q_10), (2, .int v2_26), (4, .int v4_26), (1, .int v1_7), (0, .ref (am 0))]) hx hb dX6_ring_60 rfl hl (by decide) rfl (fun ls hl => ?_)
                    refine lv_iinc (v := v4_26 + 1) (lv' := [(4, .int (v4_26 + 1)), (3, .int q_10), (2, .int v2_26), (1, .int v1_7), (0, .ref (am 0))]) hx hb dX6_ring_61 hl (k := 2) rfl rfl (by decide) rfl (fun ls hl => ?_)
                    refine lv_goto (tgt := 26) hx hb dX6_ring_64 (by decide) ?_
                    exact ih v2_26 q_10 (v4_26 + 1) _ _ _ h hP hS (lv_sub hl [0, 1, 2, 3, 4] rfl)
                  · rw [if_neg c_9] at h
                    refine lv_iload_n hx hb dX6_ring_49 rfl (lv_at hl 1 rfl) ?_
                    refine lv_goto (tgt := 54) hx hb dX6_ring_50 (by decide) ?_
                    refine lv_istore_n (lv' := [(2, .int v3_26), (4, .int v4_26), (3, .int v3_26), (1, .int v1_7), (0, .ref (am 0))]) hx hb dX6_ring_54 rfl hl (by decide) rfl (fun ls hl => ?_)
                    refine lv_aload_n hx hb dX6_ring_55 rfl (lv_at hl 4 rfl) ?_
                    refine lv_iload_n hx hb dX6_ring_56 rfl (lv_at hl 2 rfl) ?_
                    obtain ⟨q_12, hq_12, h⟩ := bi_some h
                    refine vp_callSi (va_Run.run (va_runV (As := [.int v3_26]) (rest := []) ⟨hx, hb, hml, hown, hts⟩ (k_X6_waitsOn l dC dI cI cZ am hI M_2 v3_26 q_12 hq_12) (cwV 1 hts gX6_ring_X6_waitsOn rfl rfl rfl (by decide +kernel) ⟨Nat.le_of_ble_eq_true rfl, Nat.le_of_ble_eq_true rfl⟩) (gm_preV hKK hKz hP (va_recv hKz hP (ci := 6) (q0 := 0) rfl mw_0)) rfl rfl hl.1 rfl (lv_room (Nat.le_of_ble_eq_true rfl)) dX6_ring_57 ⟨Nat.zero_le _, Nat.zero_le _⟩)) (fun r_13 hr_13 => ?_)
                    replace hr_13 := hr_13.symm
                    subst hr_13
                    refine lv_istore_n (lv' := [(3, .int q_12), (2, .int v3_26), (4, .int v4_26), (1, .int v1_7), (0, .ref (am 0))]) hx hb dX6_ring_60 rfl hl (by decide) rfl (fun ls hl => ?_)
                    refine lv_iinc (v := v4_26 + 1) (lv' := [(4, .int (v4_26 + 1)), (3, .int q_12), (2, .int v3_26), (1, .int v1_7), (0, .ref (am 0))]) hx hb dX6_ring_61 hl (k := 2) rfl rfl (by decide) rfl (fun ls hl => ?_)
                    refine lv_goto (tgt := 26) hx hb dX6_ring_64 (by decide) ?_
                    exact ih v3_26 q_12 (v4_26 + 1) _ _ _ h hP hS (lv_sub hl [0, 1, 2, 3, 4] rfl)
        refine key26 _ (fun v2_26 v3_26 v4_26 H locs ls h hP hS hl => ?_) 4000 v1_7 q_4 0 _ _ _ h hP hS (lv_sub hl [0, 1, 2, 3, 4] rfl)
        have hD := cwl_D hI (encM cI cZ am M_2)
        try dsimp only at h
        refine lv_iload_n hx hb dX6_ring_67 rfl (lv_at hl 1 rfl) ?_
        refine lv_iload_n hx hb dX6_ring_68 rfl (lv_at hl 3 rfl) ?_
        refine lv_icmp_eq (tgt := 75) hx hb dX6_ring_69 (by decide) (fun c_14 => ?_) (fun c_14 => ?_)
        · rw [if_pos c_14] at h
          refine lv_aload_n hx hb dX6_ring_75 rfl (lv_at hl 4 rfl) ?_
          refine lv_iload_n hx hb dX6_ring_76 rfl (lv_at hl 2 rfl) ?_
          refine lv_iconst (v := 3) hx hb dX6_ring_77 (by decide) ?_
          obtain ⟨q_15, hq_15, h⟩ := bi_some h
          refine va_callv (va_runV (As := [.int v2_26, .int 3]) (rest := []) ⟨hx, hb, hml, hown, hts⟩ (k_X6_undo l dC dI cI cZ am hI M_2 v2_26 3 q_15 hq_15) (cwV 2 hts gX6_ring_X6_undo rfl rfl rfl (by decide +kernel) ⟨Nat.le_of_ble_eq_true rfl, Nat.le_of_ble_eq_true rfl⟩) (gm_preV hKK hKz hP (va_recv hKz hP (ci := 6) (q0 := 0) rfl mw_0)) rfl rfl hl.1 rfl (lv_room (Nat.le_of_ble_eq_true rfl)) dX6_ring_78 ⟨Nat.zero_le _, Nat.zero_le _⟩) hS (fun q _ h => h) (fun q h => h) (fun M_17 t H locs ht hvm hw hP hz1 hk1 hS => ?_)
          replace hw := hw.symm
          subst hw
          rw [ht] at hP
          have hD := cwl_D hI (encM cI cZ am q_15)
          refine lv_iload_n hx hb dX6_ring_81 rfl (lv_at hl 2 rfl) ?_
          replace h := Option.some.inj h
          subst h
          exact W.iret (v := v2_26) hx hb hr (fun t ht hW => ⟨⟨_, _, rfl, ⟨rfl, rfl⟩, (show va_P (dC, dI) vwCl (mW cI cZ am q_15) t.heap by rw [ht]; exact hP)⟩, hS.F ht⟩) hS.2.2 dX6_ring_82
        · rw [if_neg c_14] at h
          refine lv_goto (tgt := 83) hx hb dX6_ring_72 (by decide) ?_
          refine lv_iinc (v := v1_7 + 1) (lv' := [(1, .int (v1_7 + 1)), (4, .int v4_26), (3, .int v3_26), (2, .int v2_26), (0, .ref (am 0))]) hx hb dX6_ring_83 hl (k := 3) rfl rfl (by decide) rfl (fun ls hl => ?_)
          refine lv_goto (tgt := 7) hx hb dX6_ring_86 (by decide) ?_
          exact ih M_2 (v1_7 + 1) _ _ _ h hP hS (lv_sub hl [0, 4] rfl)
  refine key7 _ (fun M_2 v1_7 H locs ls h hP hS hl => ?_) 4000 M_1 0 _ _ _ h hP hS (lv_sub hl [0, 1] rfl)
  have hD := cwl_D hI (encM cI cZ am M_2)
  try dsimp only at h
  refine lv_iconst (v := (-1)) hx hb dX6_ring_89 (by decide) ?_
  replace h := Option.some.inj h
  subst h
  exact W.iret (v := (-1)) hx hb hr (fun t ht hW => ⟨⟨_, _, rfl, ⟨rfl, rfl⟩, (show va_P (dC, dI) vwCl (mW cI cZ am M_2) t.heap by rw [ht]; exact hP)⟩, hS.F ht⟩) hS.2.2 dX6_ring_90
theorem jX6_interrupt_X6 : ∀ w ∈ u_ws RX6 TX6 29, w ∈ wsX6_interrupt := by decide +kernel
def F_X6_interrupt (M : Mem) (p1 : Int32) : Option (Int32 × Mem) :=
  bm (up2 M 0 0 0) fun M_1 => bi (F_X6_isWork M_1 p1) fun q_2 => (if q_2 = 0 then some ((-1), M_1) else gd (inb p1 (lm 3)) <| (if (M_1 3 p1.toNatClampNeg) = 0 then gd (inb p1 (lm 6)) <| (if (M_1 6 p1.toNatClampNeg) = 3 then bi (F_X6_undo M_1 p1 4) fun q_9 => some (1, q_9) else gd (inb p1 (lm 6)) <| (if (M_1 6 p1.toNatClampNeg) = 4 then bi (F_X6_undo M_1 p1 4) fun q_14 => some (1, q_14) else some ((-3), M_1))) else some ((-3), M_1)))
set_option maxHeartbeats 4000000 in
set_option maxRecDepth 100000 in
theorem k_X6_interrupt (l : Launch) (dC : Nat → ClassId) (dI : Nat → Nat → Nat) (cI cZ : ClassId) (am : Nat → Nat) (hI : Inj 24 am) (M : Mem) (p1 : Int32) (q : Int32 × Mem) (h : F_X6_interrupt M p1 = some q) : Met l yX6_interrupt wsX6_interrupt ({ frames := 2, cells := 0, slots := 0, locals := 46 }) (gm dC dI cI cZ am M [.ref (am 0), .int p1]) (va_Qi (fun x M' => x = q.1 ∧ M' = q.2) (fun M' t => va_P (dC, dI) vwCl (mW cI cZ am M') t.heap) (Ac 24 am)) 0 0 (Ac 24 am) := by
  refine Met.ofW (cc := cX6_interrupt) (maxL := 2) (ret := (some .int)) (by decide) rfl ?_
  intro p e s m args below meth c s₁ B hml hv
  obtain ⟨rfl, hP, hKK, hKz⟩ := hv
  have hx := B.exec
  have hb := B.bytes
  have hr := B.returns
  have hts := atoms_spec (ws := wsX6_interrupt) B.pre
  have hown : s.vm.findClass RX6 = some m.cls := findClass_of_methodNamed B.named
  have hlocks := B.notSynchronized
  have hD := cwl_D hI (encM cI cZ am M)
  have hS : va_S (Ac 24 am) s.heap s.heap [] := va_S.rf
  have hl := lv_entry ([.ref (am 0), .int p1]) (n := 2) (Nat.le_of_ble_eq_true rfl)
  rw [lg_entry_eq]
  generalize (lg_sl ([.ref (am 0), .int p1]) ++ List.replicate (2 - (lg_sl ([.ref (am 0), .int p1])).length) Slot.unset).toArray = ls at hl ⊢
  have hl : lv_has ls 2 [(0, .ref (am 0)), (1, .int p1)] := hl
  unfold F_X6_interrupt at h
  refine lv_aload_n hx hb dX6_interrupt_0 rfl (lv_at hl 0 rfl) ?_
  refine lv_iconst (v := 0) hx hb dX6_interrupt_1 (by decide) ?_
  refine va_put (D := (dC, dI)) (ci := 6) (v := .int 0) (ty := .int) (C := RX6) (T := TX6) (N := 29) hx hb hts jX6_interrupt_X6 tyX6 tyX6_ok nmX6 hown hKz hP hD hS 0 mw_0 rfl 0 (by decide) (hts (.fieldLink RX6 80 "LendThreadsModel" "thrown" "I") (by decide +kernel)) (fun _ h9 => h9) rfl (by decide +kernel) rfl rfl (Nat.le_of_ble_eq_true rfl) dX6_interrupt_2 (fun H locs hP _ hS => ?_)
  have hP : va_P (dC, dI) vwCl (mW cI cZ am (up2 M 0 0 0)) H := by show va_P (dC, dI) vwCl (cwl 24 am (encM cI cZ am (up2 M 0 0 0))) H; rw [← em_thrown, ← cwl_set (by decide)]; exact hP
  have hD := cwl_D hI (encM cI cZ am (up2 M 0 0 0))
  generalize up2 M 0 0 0 = M_1 at hP hD h
  replace h := bm_e h
  try dsimp only at h
  refine lv_aload_n hx hb dX6_interrupt_5 rfl (lv_at hl 0 rfl) ?_
  refine lv_iload_n hx hb dX6_interrupt_6 rfl (lv_at hl 1 rfl) ?_
  obtain ⟨q_2, hq_2, h⟩ := bi_some h
  refine vp_callSi (va_Run.run (va_runV (As := [.int p1]) (rest := []) ⟨hx, hb, hml, hown, hts⟩ (k_X6_isWork l dC dI cI cZ am hI M_1 p1 q_2 hq_2) (cwV 1 hts gX6_interrupt_X6_isWork rfl rfl rfl (by decide +kernel) ⟨Nat.le_of_ble_eq_true rfl, Nat.le_of_ble_eq_true rfl⟩) (gm_preV hKK hKz hP (va_recv hKz hP (ci := 6) (q0 := 0) rfl mw_0)) rfl rfl hl.1 rfl (lv_room (Nat.le_of_ble_eq_true rfl)) dX6_interrupt_7 ⟨Nat.zero_le _, Nat.zero_le _⟩)) (fun r_3 hr_3 => ?_)
  replace hr_3 := hr_3.symm
  subst hr_3
  refine lv_if_ne (tgt := 15) hx hb dX6_interrupt_10 (by decide) (fun c_4 => ?_) (fun c_4 => ?_)
  · rw [if_neg c_4] at h
    refine lv_aload_n hx hb dX6_interrupt_15 rfl (lv_at hl 0 rfl) ?_
    refine va_get (D := (dC, dI)) (ci := 6) (v := .ref (am 3)) (C := RX6) (T := TX6) (N := 29) hx hb hts jX6_interrupt_X6 hown hKz hP 0 mw_0 rfl 4 (by decide) (hts (.fieldLink RX6 16 "LendThreadsModel" "state" "[I") (by decide +kernel)) (fun _ h9 => h9) rfl dX6_interrupt_16 ?_
    refine lv_iload_n hx hb dX6_interrupt_19 rfl (lv_at hl 1 rfl) ?_
    obtain ⟨g_5, h⟩ := gd_some h
    refine va_iald hx hb hKz hP 3 0 (mw_arr (k := 3) (by decide) (by decide) (by decide)) rfl (inb_in g_5) dX6_interrupt_20 ?_
    refine lv_if_ne (tgt := 44) hx hb dX6_interrupt_21 (by decide) (fun c_6 => ?_) (fun c_6 => ?_)
    · rw [if_neg c_6] at h
      refine lv_bipush (v := (-3)) hx hb dX6_interrupt_44 (by decide) ?_
      replace h := Option.some.inj h
      subst h
      exact W.iret (v := (-3)) hx hb hr (fun t ht hW => ⟨⟨_, _, rfl, ⟨rfl, rfl⟩, (show va_P (dC, dI) vwCl (mW cI cZ am M_1) t.heap by rw [ht]; exact hP)⟩, hS.F ht⟩) hS.2.2 dX6_interrupt_46
    · rw [if_pos c_6] at h
      refine lv_aload_n hx hb dX6_interrupt_24 rfl (lv_at hl 0 rfl) ?_
      refine va_get (D := (dC, dI)) (ci := 6) (v := .ref (am 6)) (C := RX6) (T := TX6) (N := 29) hx hb hts jX6_interrupt_X6 hown hKz hP 0 mw_0 rfl 7 (by decide) (hts (.fieldLink RX6 25 "LendThreadsModel" "latest" "[I") (by decide +kernel)) (fun _ h9 => h9) rfl dX6_interrupt_25 ?_
      refine lv_iload_n hx hb dX6_interrupt_28 rfl (lv_at hl 1 rfl) ?_
      obtain ⟨g_7, h⟩ := gd_some h
      refine va_iald hx hb hKz hP 6 0 (mw_arr (k := 6) (by decide) (by decide) (by decide)) rfl (inb_in g_7) dX6_interrupt_29 ?_
      refine lv_iconst (v := 3) hx hb dX6_interrupt_30 (by decide) ?_
      refine lv_icmp_eq (tgt := 47) hx hb dX6_interrupt_31 (by decide) (fun c_8 => ?_) (fun c_8 => ?_)
      · rw [if_pos c_8] at h
        refine lv_aload_n hx hb dX6_interrupt_47 rfl (lv_at hl 0 rfl) ?_
        refine lv_iload_n hx hb dX6_interrupt_48 rfl (lv_at hl 1 rfl) ?_
        refine lv_iconst (v := 4) hx hb dX6_interrupt_49 (by decide) ?_
        obtain ⟨q_9, hq_9, h⟩ := bi_some h
        refine va_callv (va_runV (As := [.int p1, .int 4]) (rest := []) ⟨hx, hb, hml, hown, hts⟩ (k_X6_undo l dC dI cI cZ am hI M_1 p1 4 q_9 hq_9) (cwV 2 hts gX6_interrupt_X6_undo rfl rfl rfl (by decide +kernel) ⟨Nat.le_of_ble_eq_true rfl, Nat.le_of_ble_eq_true rfl⟩) (gm_preV hKK hKz hP (va_recv hKz hP (ci := 6) (q0 := 0) rfl mw_0)) rfl rfl hl.1 rfl (lv_room (Nat.le_of_ble_eq_true rfl)) dX6_interrupt_50 ⟨Nat.zero_le _, Nat.zero_le _⟩) hS (fun q _ h => h) (fun q h => h) (fun M_11 t H locs ht hvm hw hP hz1 hk1 hS => ?_)
        replace hw := hw.symm
        subst hw
        rw [ht] at hP
        have hD := cwl_D hI (encM cI cZ am q_9)
        refine lv_iconst (v := 1) hx hb dX6_interrupt_53 (by decide) ?_
        replace h := Option.some.inj h
        subst h
        exact W.iret (v := 1) hx hb hr (fun t ht hW => ⟨⟨_, _, rfl, ⟨rfl, rfl⟩, (show va_P (dC, dI) vwCl (mW cI cZ am q_9) t.heap by rw [ht]; exact hP)⟩, hS.F ht⟩) hS.2.2 dX6_interrupt_54
      · rw [if_neg c_8] at h
        refine lv_aload_n hx hb dX6_interrupt_34 rfl (lv_at hl 0 rfl) ?_
        refine va_get (D := (dC, dI)) (ci := 6) (v := .ref (am 6)) (C := RX6) (T := TX6) (N := 29) hx hb hts jX6_interrupt_X6 hown hKz hP 0 mw_0 rfl 7 (by decide) (hts (.fieldLink RX6 25 "LendThreadsModel" "latest" "[I") (by decide +kernel)) (fun _ h9 => h9) rfl dX6_interrupt_35 ?_
        refine lv_iload_n hx hb dX6_interrupt_38 rfl (lv_at hl 1 rfl) ?_
        obtain ⟨g_12, h⟩ := gd_some h
        refine va_iald hx hb hKz hP 6 0 (mw_arr (k := 6) (by decide) (by decide) (by decide)) rfl (inb_in g_12) dX6_interrupt_39 ?_
        refine lv_iconst (v := 4) hx hb dX6_interrupt_40 (by decide) ?_
        refine lv_icmp_eq (tgt := 47) hx hb dX6_interrupt_41 (by decide) (fun c_13 => ?_) (fun c_13 => ?_)
        · rw [if_pos c_13] at h
          refine lv_aload_n hx hb dX6_interrupt_47 rfl (lv_at hl 0 rfl) ?_
          refine lv_iload_n hx hb dX6_interrupt_48 rfl (lv_at hl 1 rfl) ?_
          refine lv_iconst (v := 4) hx hb dX6_interrupt_49 (by decide) ?_
          obtain ⟨q_14, hq_14, h⟩ := bi_some h
          refine va_callv (va_runV (As := [.int p1, .int 4]) (rest := []) ⟨hx, hb, hml, hown, hts⟩ (k_X6_undo l dC dI cI cZ am hI M_1 p1 4 q_14 hq_14) (cwV 2 hts gX6_interrupt_X6_undo rfl rfl rfl (by decide +kernel) ⟨Nat.le_of_ble_eq_true rfl, Nat.le_of_ble_eq_true rfl⟩) (gm_preV hKK hKz hP (va_recv hKz hP (ci := 6) (q0 := 0) rfl mw_0)) rfl rfl hl.1 rfl (lv_room (Nat.le_of_ble_eq_true rfl)) dX6_interrupt_50 ⟨Nat.zero_le _, Nat.zero_le _⟩) hS (fun q _ h => h) (fun q h => h) (fun M_16 t H locs ht hvm hw hP hz1 hk1 hS => ?_)
          replace hw := hw.symm
          subst hw
          rw [ht] at hP
          have hD := cwl_D hI (encM cI cZ am q_14)
          refine lv_iconst (v := 1) hx hb dX6_interrupt_53 (by decide) ?_
          replace h := Option.some.inj h
          subst h
          exact W.iret (v := 1) hx hb hr (fun t ht hW => ⟨⟨_, _, rfl, ⟨rfl, rfl⟩, (show va_P (dC, dI) vwCl (mW cI cZ am q_14) t.heap by rw [ht]; exact hP)⟩, hS.F ht⟩) hS.2.2 dX6_interrupt_54
        · rw [if_neg c_13] at h
          refine lv_bipush (v := (-3)) hx hb dX6_interrupt_44 (by decide) ?_
          replace h := Option.some.inj h
          subst h
          exact W.iret (v := (-3)) hx hb hr (fun t ht hW => ⟨⟨_, _, rfl, ⟨rfl, rfl⟩, (show va_P (dC, dI) vwCl (mW cI cZ am M_1) t.heap by rw [ht]; exact hP)⟩, hS.F ht⟩) hS.2.2 dX6_interrupt_46
  · rw [if_pos c_4] at h
    refine lv_iconst (v := (-1)) hx hb dX6_interrupt_13 (by decide) ?_
    replace h := Option.some.inj h
    subst h
    exact W.iret (v := (-1)) hx hb hr (fun t ht hW => ⟨⟨_, _, rfl, ⟨rfl, rfl⟩, (show va_P (dC, dI) vwCl (mW cI cZ am M_1) t.heap by rw [ht]; exact hP)⟩, hS.F ht⟩) hS.2.2 dX6_interrupt_14
theorem jX6_again_X6 : ∀ w ∈ u_ws RX6 TX6 29, w ∈ wsX6_again := by decide +kernel
def F_X6_again (M : Mem) (p1 : Int32) : Option (Int32 × Mem) :=
  bm (up2 M 0 0 0) fun M_1 => bi (F_X6_isWork M_1 p1) fun q_2 => (if q_2 = 0 then some ((-1), M_1) else gd (inb p1 (lm 3)) <| bi (F_X6_in M_1 (M_1 3 p1.toNatClampNeg) 2 4) fun q_6 => (if q_6 = 0 then some ((-3), M_1) else gd (inb p1 (lm 3)) <| bm (up2 M_1 3 p1.toNatClampNeg 0) fun M_10 => gd (inb p1 (lm 4)) <| bm (up2 M_10 4 p1.toNatClampNeg 0) fun M_12 => gd (inb p1 (lm 5)) <| bm (up2 M_12 5 p1.toNatClampNeg 0) fun M_14 => gd (inb p1 (lm 6)) <| bm (up2 M_14 6 p1.toNatClampNeg 0) fun M_16 => gd (inb p1 (lm 2)) <| bm (up2 M_16 2 p1.toNatClampNeg (-1)) fun M_18 => gd (inb p1 (lm 9)) <| gd (inb p1 (lm 9)) <| bm (up2 M_18 9 p1.toNatClampNeg ((M_18 9 p1.toNatClampNeg) + 1)) fun M_21 => gd (inb p1 (lm 9)) <| some ((M_21 9 p1.toNatClampNeg), M_21)))
set_option maxHeartbeats 4000000 in
set_option maxRecDepth 100000 in
theorem k_X6_again (l : Launch) (dC : Nat → ClassId) (dI : Nat → Nat → Nat) (cI cZ : ClassId) (am : Nat → Nat) (hI : Inj 24 am) (M : Mem) (p1 : Int32) (q : Int32 × Mem) (h : F_X6_again M p1 = some q) : Met l yX6_again wsX6_again ({ frames := 2, cells := 0, slots := 0, locals := 43 }) (gm dC dI cI cZ am M [.ref (am 0), .int p1]) (va_Qi (fun x M' => x = q.1 ∧ M' = q.2) (fun M' t => va_P (dC, dI) vwCl (mW cI cZ am M') t.heap) (Ac 24 am)) 0 0 (Ac 24 am) := by
  refine Met.ofW (cc := cX6_again) (maxL := 2) (ret := (some .int)) (by decide) rfl ?_
  intro p e s m args below meth c s₁ B hml hv
  obtain ⟨rfl, hP, hKK, hKz⟩ := hv
  have hx := B.exec
  have hb := B.bytes
  have hr := B.returns
  have hts := atoms_spec (ws := wsX6_again) B.pre
  have hown : s.vm.findClass RX6 = some m.cls := findClass_of_methodNamed B.named
  have hlocks := B.notSynchronized
  have hD := cwl_D hI (encM cI cZ am M)
  have hS : va_S (Ac 24 am) s.heap s.heap [] := va_S.rf
  have hl := lv_entry ([.ref (am 0), .int p1]) (n := 2) (Nat.le_of_ble_eq_true rfl)
  rw [lg_entry_eq]
  generalize (lg_sl ([.ref (am 0), .int p1]) ++ List.replicate (2 - (lg_sl ([.ref (am 0), .int p1])).length) Slot.unset).toArray = ls at hl ⊢
  have hl : lv_has ls 2 [(0, .ref (am 0)), (1, .int p1)] := hl
  unfold F_X6_again at h
  refine lv_aload_n hx hb dX6_again_0 rfl (lv_at hl 0 rfl) ?_
  refine lv_iconst (v := 0) hx hb dX6_again_1 (by decide) ?_
  refine va_put (D := (dC, dI)) (ci := 6) (v := .int 0) (ty := .int) (C := RX6) (T := TX6) (N := 29) hx hb hts jX6_again_X6 tyX6 tyX6_ok nmX6 hown hKz hP hD hS 0 mw_0 rfl 0 (by decide) (hts (.fieldLink RX6 80 "LendThreadsModel" "thrown" "I") (by decide +kernel)) (fun _ h9 => h9) rfl (by decide +kernel) rfl rfl (Nat.le_of_ble_eq_true rfl) dX6_again_2 (fun H locs hP _ hS => ?_)
  have hP : va_P (dC, dI) vwCl (mW cI cZ am (up2 M 0 0 0)) H := by show va_P (dC, dI) vwCl (cwl 24 am (encM cI cZ am (up2 M 0 0 0))) H; rw [← em_thrown, ← cwl_set (by decide)]; exact hP
  have hD := cwl_D hI (encM cI cZ am (up2 M 0 0 0))
  generalize up2 M 0 0 0 = M_1 at hP hD h
  replace h := bm_e h
  try dsimp only at h
  refine lv_aload_n hx hb dX6_again_5 rfl (lv_at hl 0 rfl) ?_
  refine lv_iload_n hx hb dX6_again_6 rfl (lv_at hl 1 rfl) ?_
  obtain ⟨q_2, hq_2, h⟩ := bi_some h
  refine vp_callSi (va_Run.run (va_runV (As := [.int p1]) (rest := []) ⟨hx, hb, hml, hown, hts⟩ (k_X6_isWork l dC dI cI cZ am hI M_1 p1 q_2 hq_2) (cwV 1 hts gX6_again_X6_isWork rfl rfl rfl (by decide +kernel) ⟨Nat.le_of_ble_eq_true rfl, Nat.le_of_ble_eq_true rfl⟩) (gm_preV hKK hKz hP (va_recv hKz hP (ci := 6) (q0 := 0) rfl mw_0)) rfl rfl hl.1 rfl (lv_room (Nat.le_of_ble_eq_true rfl)) dX6_again_7 ⟨Nat.zero_le _, Nat.zero_le _⟩)) (fun r_3 hr_3 => ?_)
  replace hr_3 := hr_3.symm
  subst hr_3
  refine lv_if_ne (tgt := 15) hx hb dX6_again_10 (by decide) (fun c_4 => ?_) (fun c_4 => ?_)
  · rw [if_neg c_4] at h
    refine lv_aload_n hx hb dX6_again_15 rfl (lv_at hl 0 rfl) ?_
    refine va_get (D := (dC, dI)) (ci := 6) (v := .ref (am 3)) (C := RX6) (T := TX6) (N := 29) hx hb hts jX6_again_X6 hown hKz hP 0 mw_0 rfl 4 (by decide) (hts (.fieldLink RX6 16 "LendThreadsModel" "state" "[I") (by decide +kernel)) (fun _ h9 => h9) rfl dX6_again_16 ?_
    refine lv_iload_n hx hb dX6_again_19 rfl (lv_at hl 1 rfl) ?_
    obtain ⟨g_5, h⟩ := gd_some h
    refine va_iald hx hb hKz hP 3 0 (mw_arr (k := 3) (by decide) (by decide) (by decide)) rfl (inb_in g_5) dX6_again_20 ?_
    refine lv_iconst (v := 2) hx hb dX6_again_21 (by decide) ?_
    refine lv_iconst (v := 4) hx hb dX6_again_22 (by decide) ?_
    obtain ⟨q_6, hq_6, h⟩ := bi_some h
    refine vp_callSi (va_Run.run (va_runS (As := [.int (M_1 3 p1.toNatClampNeg), .int 2, .int 4]) (rest := []) ⟨hx, hb, hml, hown, hts⟩ (k_X6_in l dC dI cI cZ am hI M_1 (M_1 3 p1.toNatClampNeg) 2 4 q_6 hq_6) (va_cwS 3 hts gX6_again_X6_in rfl rfl rfl (by decide +kernel) ⟨Nat.le_of_ble_eq_true rfl, Nat.le_of_ble_eq_true rfl⟩) (gm_preS hKK hKz hP) rfl rfl hl.1 rfl (lv_room (Nat.le_of_ble_eq_true rfl)) dX6_again_23 ⟨Nat.zero_le _, Nat.zero_le _⟩)) (fun r_7 hr_7 => ?_)
    replace hr_7 := hr_7.symm
    subst hr_7
    refine lv_if_ne (tgt := 32) hx hb dX6_again_26 (by decide) (fun c_8 => ?_) (fun c_8 => ?_)
    · rw [if_neg c_8] at h
      refine lv_aload_n hx hb dX6_again_32 rfl (lv_at hl 0 rfl) ?_
      refine va_get (D := (dC, dI)) (ci := 6) (v := .ref (am 3)) (C := RX6) (T := TX6) (N := 29) hx hb hts jX6_again_X6 hown hKz hP 0 mw_0 rfl 4 (by decide) (hts (.fieldLink RX6 16 "LendThreadsModel" "state" "[I") (by decide +kernel)) (fun _ h9 => h9) rfl dX6_again_33 ?_
      refine lv_iload_n hx hb dX6_again_36 rfl (lv_at hl 1 rfl) ?_
      refine lv_iconst (v := 0) hx hb dX6_again_37 (by decide) ?_
      obtain ⟨g_9, h⟩ := gd_some h
      refine va_iast hx hb hKz hP hD hS 3 0 (mw_arr (k := 3) (by decide) (by decide) (by decide)) rfl (inb_in g_9) dX6_again_38 (fun H locs hP _ hS => ?_)
      have hP : va_P (dC, dI) vwCl (mW cI cZ am (up2 M_1 3 p1.toNatClampNeg 0)) H := by show va_P (dC, dI) vwCl (cwl 24 am (encM cI cZ am (up2 M_1 3 p1.toNatClampNeg 0))) H; rw [← em_arr (k := 3) (by decide) (by decide), ← cwl_set (by decide)]; exact hP
      have hD := cwl_D hI (encM cI cZ am (up2 M_1 3 p1.toNatClampNeg 0))
      generalize up2 M_1 3 p1.toNatClampNeg 0 = M_10 at hP hD h
      replace h := bm_e h
      try dsimp only at h
      refine lv_aload_n hx hb dX6_again_39 rfl (lv_at hl 0 rfl) ?_
      refine va_get (D := (dC, dI)) (ci := 6) (v := .ref (am 4)) (C := RX6) (T := TX6) (N := 29) hx hb hts jX6_again_X6 hown hKz hP 0 mw_0 rfl 5 (by decide) (hts (.fieldLink RX6 19 "LendThreadsModel" "step" "[I") (by decide +kernel)) (fun _ h9 => h9) rfl dX6_again_40 ?_
      refine lv_iload_n hx hb dX6_again_43 rfl (lv_at hl 1 rfl) ?_
      refine lv_iconst (v := 0) hx hb dX6_again_44 (by decide) ?_
      obtain ⟨g_11, h⟩ := gd_some h
      refine va_iast hx hb hKz hP hD hS 4 0 (mw_arr (k := 4) (by decide) (by decide) (by decide)) rfl (inb_in g_11) dX6_again_45 (fun H locs hP _ hS => ?_)
      have hP : va_P (dC, dI) vwCl (mW cI cZ am (up2 M_10 4 p1.toNatClampNeg 0)) H := by show va_P (dC, dI) vwCl (cwl 24 am (encM cI cZ am (up2 M_10 4 p1.toNatClampNeg 0))) H; rw [← em_arr (k := 4) (by decide) (by decide), ← cwl_set (by decide)]; exact hP
      have hD := cwl_D hI (encM cI cZ am (up2 M_10 4 p1.toNatClampNeg 0))
      generalize up2 M_10 4 p1.toNatClampNeg 0 = M_12 at hP hD h
      replace h := bm_e h
      try dsimp only at h
      refine lv_aload_n hx hb dX6_again_46 rfl (lv_at hl 0 rfl) ?_
      refine va_get (D := (dC, dI)) (ci := 6) (v := .ref (am 5)) (C := RX6) (T := TX6) (N := 29) hx hb hts jX6_again_X6 hown hKz hP 0 mw_0 rfl 6 (by decide) (hts (.fieldLink RX6 22 "LendThreadsModel" "got" "[I") (by decide +kernel)) (fun _ h9 => h9) rfl dX6_again_47 ?_
      refine lv_iload_n hx hb dX6_again_50 rfl (lv_at hl 1 rfl) ?_
      refine lv_iconst (v := 0) hx hb dX6_again_51 (by decide) ?_
      obtain ⟨g_13, h⟩ := gd_some h
      refine va_iast hx hb hKz hP hD hS 5 0 (mw_arr (k := 5) (by decide) (by decide) (by decide)) rfl (inb_in g_13) dX6_again_52 (fun H locs hP _ hS => ?_)
      have hP : va_P (dC, dI) vwCl (mW cI cZ am (up2 M_12 5 p1.toNatClampNeg 0)) H := by show va_P (dC, dI) vwCl (cwl 24 am (encM cI cZ am (up2 M_12 5 p1.toNatClampNeg 0))) H; rw [← em_arr (k := 5) (by decide) (by decide), ← cwl_set (by decide)]; exact hP
      have hD := cwl_D hI (encM cI cZ am (up2 M_12 5 p1.toNatClampNeg 0))
      generalize up2 M_12 5 p1.toNatClampNeg 0 = M_14 at hP hD h
      replace h := bm_e h
      try dsimp only at h
      refine lv_aload_n hx hb dX6_again_53 rfl (lv_at hl 0 rfl) ?_
      refine va_get (D := (dC, dI)) (ci := 6) (v := .ref (am 6)) (C := RX6) (T := TX6) (N := 29) hx hb hts jX6_again_X6 hown hKz hP 0 mw_0 rfl 7 (by decide) (hts (.fieldLink RX6 25 "LendThreadsModel" "latest" "[I") (by decide +kernel)) (fun _ h9 => h9) rfl dX6_again_54 ?_
      refine lv_iload_n hx hb dX6_again_57 rfl (lv_at hl 1 rfl) ?_
      refine lv_iconst (v := 0) hx hb dX6_again_58 (by decide) ?_
      obtain ⟨g_15, h⟩ := gd_some h
      refine va_iast hx hb hKz hP hD hS 6 0 (mw_arr (k := 6) (by decide) (by decide) (by decide)) rfl (inb_in g_15) dX6_again_59 (fun H locs hP _ hS => ?_)
      have hP : va_P (dC, dI) vwCl (mW cI cZ am (up2 M_14 6 p1.toNatClampNeg 0)) H := by show va_P (dC, dI) vwCl (cwl 24 am (encM cI cZ am (up2 M_14 6 p1.toNatClampNeg 0))) H; rw [← em_arr (k := 6) (by decide) (by decide), ← cwl_set (by decide)]; exact hP
      have hD := cwl_D hI (encM cI cZ am (up2 M_14 6 p1.toNatClampNeg 0))
      generalize up2 M_14 6 p1.toNatClampNeg 0 = M_16 at hP hD h
      replace h := bm_e h
      try dsimp only at h
      refine lv_aload_n hx hb dX6_again_60 rfl (lv_at hl 0 rfl) ?_
      refine va_get (D := (dC, dI)) (ci := 6) (v := .ref (am 2)) (C := RX6) (T := TX6) (N := 29) hx hb hts jX6_again_X6 hown hKz hP 0 mw_0 rfl 3 (by decide) (hts (.fieldLink RX6 13 "LendThreadsModel" "failsAt" "[I") (by decide +kernel)) (fun _ h9 => h9) rfl dX6_again_61 ?_
      refine lv_iload_n hx hb dX6_again_64 rfl (lv_at hl 1 rfl) ?_
      refine lv_iconst (v := (-1)) hx hb dX6_again_65 (by decide) ?_
      obtain ⟨g_17, h⟩ := gd_some h
      refine va_iast hx hb hKz hP hD hS 2 0 (mw_arr (k := 2) (by decide) (by decide) (by decide)) rfl (inb_in g_17) dX6_again_66 (fun H locs hP _ hS => ?_)
      have hP : va_P (dC, dI) vwCl (mW cI cZ am (up2 M_16 2 p1.toNatClampNeg (-1))) H := by show va_P (dC, dI) vwCl (cwl 24 am (encM cI cZ am (up2 M_16 2 p1.toNatClampNeg (-1)))) H; rw [← em_arr (k := 2) (by decide) (by decide), ← cwl_set (by decide)]; exact hP
      have hD := cwl_D hI (encM cI cZ am (up2 M_16 2 p1.toNatClampNeg (-1)))
      generalize up2 M_16 2 p1.toNatClampNeg (-1) = M_18 at hP hD h
      replace h := bm_e h
      try dsimp only at h
      refine lv_aload_n hx hb dX6_again_67 rfl (lv_at hl 0 rfl) ?_
      refine va_get (D := (dC, dI)) (ci := 6) (v := .ref (am 9)) (C := RX6) (T := TX6) (N := 29) hx hb hts jX6_again_X6 hown hKz hP 0 mw_0 rfl 10 (by decide) (hts (.fieldLink RX6 35 "LendThreadsModel" "again" "[I") (by decide +kernel)) (fun _ h9 => h9) rfl dX6_again_68 ?_
      refine lv_iload_n hx hb dX6_again_71 rfl (lv_at hl 1 rfl) ?_
      refine lv_dup2_11 hx hb dX6_again_72 rfl rfl ?_
      obtain ⟨g_19, h⟩ := gd_some h
      refine va_iald hx hb hKz hP 9 0 (mw_arr (k := 9) (by decide) (by decide) (by decide)) rfl (inb_in g_19) dX6_again_73 ?_
      refine lv_iconst (v := 1) hx hb dX6_again_74 (by decide) ?_
      refine lv_iadd hx hb dX6_again_75 ?_
      obtain ⟨g_20, h⟩ := gd_some h
      refine va_iast hx hb hKz hP hD hS 9 0 (mw_arr (k := 9) (by decide) (by decide) (by decide)) rfl (inb_in g_20) dX6_again_76 (fun H locs hP _ hS => ?_)
      have hP : va_P (dC, dI) vwCl (mW cI cZ am (up2 M_18 9 p1.toNatClampNeg ((M_18 9 p1.toNatClampNeg) + 1))) H := by show va_P (dC, dI) vwCl (cwl 24 am (encM cI cZ am (up2 M_18 9 p1.toNatClampNeg ((M_18 9 p1.toNatClampNeg) + 1)))) H; rw [← em_arr (k := 9) (by decide) (by decide), ← cwl_set (by decide)]; exact hP
      have hD := cwl_D hI (encM cI cZ am (up2 M_18 9 p1.toNatClampNeg ((M_18 9 p1.toNatClampNeg) + 1)))
      generalize up2 M_18 9 p1.toNatClampNeg ((M_18 9 p1.toNatClampNeg) + 1) = M_21 at hP hD h
      replace h := bm_e h
      try dsimp only at h
      refine lv_aload_n hx hb dX6_again_77 rfl (lv_at hl 0 rfl) ?_
      refine va_get (D := (dC, dI)) (ci := 6) (v := .ref (am 9)) (C := RX6) (T := TX6) (N := 29) hx hb hts jX6_again_X6 hown hKz hP 0 mw_0 rfl 10 (by decide) (hts (.fieldLink RX6 35 "LendThreadsModel" "again" "[I") (by decide +kernel)) (fun _ h9 => h9) rfl dX6_again_78 ?_
      refine lv_iload_n hx hb dX6_again_81 rfl (lv_at hl 1 rfl) ?_
      obtain ⟨g_22, h⟩ := gd_some h
      refine va_iald hx hb hKz hP 9 0 (mw_arr (k := 9) (by decide) (by decide) (by decide)) rfl (inb_in g_22) dX6_again_82 ?_
      replace h := Option.some.inj h
      subst h
      exact W.iret (v := (M_21 9 p1.toNatClampNeg)) hx hb hr (fun t ht hW => ⟨⟨_, _, rfl, ⟨rfl, rfl⟩, (show va_P (dC, dI) vwCl (mW cI cZ am M_21) t.heap by rw [ht]; exact hP)⟩, hS.F ht⟩) hS.2.2 dX6_again_83
    · rw [if_pos c_8] at h
      refine lv_bipush (v := (-3)) hx hb dX6_again_29 (by decide) ?_
      replace h := Option.some.inj h
      subst h
      exact W.iret (v := (-3)) hx hb hr (fun t ht hW => ⟨⟨_, _, rfl, ⟨rfl, rfl⟩, (show va_P (dC, dI) vwCl (mW cI cZ am M_1) t.heap by rw [ht]; exact hP)⟩, hS.F ht⟩) hS.2.2 dX6_again_31
  · rw [if_pos c_4] at h
    refine lv_iconst (v := (-1)) hx hb dX6_again_13 (by decide) ?_
    replace h := Option.some.inj h
    subst h
    exact W.iret (v := (-1)) hx hb hr (fun t ht hW => ⟨⟨_, _, rfl, ⟨rfl, rfl⟩, (show va_P (dC, dI) vwCl (mW cI cZ am M_1) t.heap by rw [ht]; exact hP)⟩, hS.F ht⟩) hS.2.2 dX6_again_14
theorem jX6_close_X6 : ∀ w ∈ u_ws RX6 TX6 29, w ∈ wsX6_close := by decide +kernel
def L_X6_close_14 (K : Mem → Int32 → Int32 → Option (Int32 × Mem))  : Nat → Mem → Int32 → Int32 → Option (Int32 × Mem)
  | 0, _, _, _ => none
  | n + 1, M_2, v1_14, v2_14 => (if v2_14 < 0 then K M_2 v1_14 v2_14 else gd (inb v2_14 (lm 3)) <| (if (M_2 3 v2_14.toNatClampNeg) = 0 then bi (F_X6_undo M_2 v2_14 5) fun q_6 => L_X6_close_14 K  n q_6 (v1_14 + 1) (v2_14 + (-1)) else L_X6_close_14 K  n M_2 v1_14 (v2_14 + (-1))))
def F_X6_close (M : Mem) : Option (Int32 × Mem) :=
  bm (up2 M 0 0 0) fun M_1 => L_X6_close_14 (fun M_2 v1_14 v2_14 => some (v1_14, M_2))  4000 M_1 0 ((M_1 0 1) - 1)
set_option maxHeartbeats 4000000 in
set_option maxRecDepth 100000 in
theorem k_X6_close (l : Launch) (dC : Nat → ClassId) (dI : Nat → Nat → Nat) (cI cZ : ClassId) (am : Nat → Nat) (hI : Inj 24 am) (M : Mem) (q : Int32 × Mem) (h : F_X6_close M  = some q) : Met l yX6_close wsX6_close ({ frames := 2, cells := 0, slots := 0, locals := 46 }) (gm dC dI cI cZ am M [.ref (am 0)]) (va_Qi (fun x M' => x = q.1 ∧ M' = q.2) (fun M' t => va_P (dC, dI) vwCl (mW cI cZ am M') t.heap) (Ac 24 am)) 0 0 (Ac 24 am) := by
  refine Met.ofW (cc := cX6_close) (maxL := 3) (ret := (some .int)) (by decide) rfl ?_
  intro p e s m args below meth c s₁ B hml hv
  obtain ⟨rfl, hP, hKK, hKz⟩ := hv
  have hx := B.exec
  have hb := B.bytes
  have hr := B.returns
  have hts := atoms_spec (ws := wsX6_close) B.pre
  have hown : s.vm.findClass RX6 = some m.cls := findClass_of_methodNamed B.named
  have hlocks := B.notSynchronized
  have hD := cwl_D hI (encM cI cZ am M)
  have hS : va_S (Ac 24 am) s.heap s.heap [] := va_S.rf
  have hl := lv_entry ([.ref (am 0)]) (n := 3) (Nat.le_of_ble_eq_true rfl)
  rw [lg_entry_eq]
  generalize (lg_sl ([.ref (am 0)]) ++ List.replicate (3 - (lg_sl ([.ref (am 0)])).length) Slot.unset).toArray = ls at hl ⊢
  have hl : lv_has ls 3 [(0, .ref (am 0))] := hl
  unfold F_X6_close at h
  refine lv_aload_n hx hb dX6_close_0 rfl (lv_at hl 0 rfl) ?_
  refine lv_iconst (v := 0) hx hb dX6_close_1 (by decide) ?_
  refine va_put (D := (dC, dI)) (ci := 6) (v := .int 0) (ty := .int) (C := RX6) (T := TX6) (N := 29) hx hb hts jX6_close_X6 tyX6 tyX6_ok nmX6 hown hKz hP hD hS 0 mw_0 rfl 0 (by decide) (hts (.fieldLink RX6 80 "LendThreadsModel" "thrown" "I") (by decide +kernel)) (fun _ h9 => h9) rfl (by decide +kernel) rfl rfl (Nat.le_of_ble_eq_true rfl) dX6_close_2 (fun H locs hP _ hS => ?_)
  have hP : va_P (dC, dI) vwCl (mW cI cZ am (up2 M 0 0 0)) H := by show va_P (dC, dI) vwCl (cwl 24 am (encM cI cZ am (up2 M 0 0 0))) H; rw [← em_thrown, ← cwl_set (by decide)]; exact hP
  have hD := cwl_D hI (encM cI cZ am (up2 M 0 0 0))
  generalize up2 M 0 0 0 = M_1 at hP hD h
  replace h := bm_e h
  try dsimp only at h
  refine lv_iconst (v := 0) hx hb dX6_close_5 (by decide) ?_
  refine lv_istore_n (lv' := [(1, .int 0), (0, .ref (am 0))]) hx hb dX6_close_6 rfl hl (by decide) rfl (fun ls hl => ?_)
  refine lv_aload_n hx hb dX6_close_7 rfl (lv_at hl 1 rfl) ?_
  refine va_get (D := (dC, dI)) (ci := 6) (v := .int (M_1 0 1)) (C := RX6) (T := TX6) (N := 29) hx hb hts jX6_close_X6 hown hKz hP 0 mw_0 rfl 1 (by decide) (hts (.fieldLink RX6 84 "LendThreadsModel" "works" "I") (by decide +kernel)) (fun _ h9 => h9) rfl dX6_close_8 ?_
  refine lv_iconst (v := 1) hx hb dX6_close_11 (by decide) ?_
  refine lv_isub hx hb dX6_close_12 ?_
  refine lv_istore_n (lv' := [(2, .int ((M_1 0 1) - 1)), (1, .int 0), (0, .ref (am 0))]) hx hb dX6_close_13 rfl hl (by decide) rfl (fun ls hl => ?_)
  have key14 : ∀ (K : Mem → Int32 → Int32 → Option (Int32 × Mem)), (∀ (M_2 : Mem) (v1_14 v2_14 : Int32) (H : Heap) (locs : List Loc) (ls : Array Slot), K M_2 v1_14 v2_14 = some q → va_P (dC, dI) vwCl (mW cI cZ am M_2) H → va_S (Ac 24 am) s.heap H locs → lv_has ls 3 [(2, .int v2_14), (1, .int v1_14), (0, .ref (am 0))] → W p l e (headSpec wsX6_close ({ frames := 2, cells := 0, slots := 0, locals := 46 })).room s m ([.ref (am 0)] : List Value).toArray below meth c H locs 0 0 (MQ below (va_Qi (fun x M' => x = q.1 ∧ M' = q.2) (fun M' t => va_P (dC, dI) vwCl (mW cI cZ am M') t.heap) (Ac 24 am)) ([.ref (am 0)] : List Value).toArray s 0 0 (Ac 24 am)) (F0 m 45 ls [])) → ∀ (n : Nat), ∀ (M_2 : Mem) (v1_14 v2_14 : Int32) (H : Heap) (locs : List Loc) (ls : Array Slot), L_X6_close_14 K  n M_2 v1_14 v2_14 = some q → va_P (dC, dI) vwCl (mW cI cZ am M_2) H → va_S (Ac 24 am) s.heap H locs → lv_has ls 3 [(2, .int v2_14), (1, .int v1_14), (0, .ref (am 0))] → W p l e (headSpec wsX6_close ({ frames := 2, cells := 0, slots := 0, locals := 46 })).room s m ([.ref (am 0)] : List Value).toArray below meth c H locs 0 0 (MQ below (va_Qi (fun x M' => x = q.1 ∧ M' = q.2) (fun M' t => va_P (dC, dI) vwCl (mW cI cZ am M') t.heap) (Ac 24 am)) ([.ref (am 0)] : List Value).toArray s 0 0 (Ac 24 am)) (F0 m 14 ls []) := by
    intro K hk n
    induction n with
    | zero =>
      intro M_2 v1_14 v2_14 H locs ls h
      exact absurd h (by simp [L_X6_close_14])
    | succ n ih =>
      intro M_2 v1_14 v2_14 H locs ls h hP hS hl
      have hD := cwl_D hI (encM cI cZ am M_2)
      simp only [L_X6_close_14] at h
      refine lv_iload_n hx hb dX6_close_14 rfl (lv_at hl 0 rfl) ?_
      refine lv_if_lt (tgt := 45) hx hb dX6_close_15 (by decide) (fun c_3 => ?_) (fun c_3 => ?_)
      · rw [if_pos c_3] at h
        exact hk M_2 v1_14 v2_14 _ _ _ h hP hS (lv_sub hl [0, 1, 2] rfl)
      · rw [if_neg c_3] at h
        refine lv_aload_n hx hb dX6_close_18 rfl (lv_at hl 2 rfl) ?_
        refine va_get (D := (dC, dI)) (ci := 6) (v := .ref (am 3)) (C := RX6) (T := TX6) (N := 29) hx hb hts jX6_close_X6 hown hKz hP 0 mw_0 rfl 4 (by decide) (hts (.fieldLink RX6 16 "LendThreadsModel" "state" "[I") (by decide +kernel)) (fun _ h9 => h9) rfl dX6_close_19 ?_
        refine lv_iload_n hx hb dX6_close_22 rfl (lv_at hl 0 rfl) ?_
        obtain ⟨g_4, h⟩ := gd_some h
        refine va_iald hx hb hKz hP 3 0 (mw_arr (k := 3) (by decide) (by decide) (by decide)) rfl (inb_in g_4) dX6_close_23 ?_
        refine lv_if_eq (tgt := 30) hx hb dX6_close_24 (by decide) (fun c_5 => ?_) (fun c_5 => ?_)
        · rw [if_pos c_5] at h
          refine lv_aload_n hx hb dX6_close_30 rfl (lv_at hl 2 rfl) ?_
          refine lv_iload_n hx hb dX6_close_31 rfl (lv_at hl 0 rfl) ?_
          refine lv_iconst (v := 5) hx hb dX6_close_32 (by decide) ?_
          obtain ⟨q_6, hq_6, h⟩ := bi_some h
          refine va_callv (va_runV (As := [.int v2_14, .int 5]) (rest := []) ⟨hx, hb, hml, hown, hts⟩ (k_X6_undo l dC dI cI cZ am hI M_2 v2_14 5 q_6 hq_6) (cwV 2 hts gX6_close_X6_undo rfl rfl rfl (by decide +kernel) ⟨Nat.le_of_ble_eq_true rfl, Nat.le_of_ble_eq_true rfl⟩) (gm_preV hKK hKz hP (va_recv hKz hP (ci := 6) (q0 := 0) rfl mw_0)) rfl rfl hl.1 rfl (lv_room (Nat.le_of_ble_eq_true rfl)) dX6_close_33 ⟨Nat.zero_le _, Nat.zero_le _⟩) hS (fun q _ h => h) (fun q h => h) (fun M_8 t H locs ht hvm hw hP hz1 hk1 hS => ?_)
          replace hw := hw.symm
          subst hw
          rw [ht] at hP
          have hD := cwl_D hI (encM cI cZ am q_6)
          refine lv_iinc (v := v1_14 + 1) (lv' := [(1, .int (v1_14 + 1)), (2, .int v2_14), (0, .ref (am 0))]) hx hb dX6_close_36 hl (k := 1) rfl rfl (by decide) rfl (fun ls hl => ?_)
          refine lv_iinc (v := v2_14 + (-1)) (lv' := [(2, .int (v2_14 + (-1))), (1, .int (v1_14 + 1)), (0, .ref (am 0))]) hx hb dX6_close_39 hl (k := 1) rfl rfl (by decide) rfl (fun ls hl => ?_)
          refine lv_goto (tgt := 14) hx hb dX6_close_42 (by decide) ?_
          exact ih q_6 (v1_14 + 1) (v2_14 + (-1)) _ _ _ h hP hS (lv_sub hl [0, 1, 2] rfl)
        · rw [if_neg c_5] at h
          refine lv_goto (tgt := 39) hx hb dX6_close_27 (by decide) ?_
          refine lv_iinc (v := v2_14 + (-1)) (lv' := [(2, .int (v2_14 + (-1))), (1, .int v1_14), (0, .ref (am 0))]) hx hb dX6_close_39 hl (k := 0) rfl rfl (by decide) rfl (fun ls hl => ?_)
          refine lv_goto (tgt := 14) hx hb dX6_close_42 (by decide) ?_
          exact ih M_2 v1_14 (v2_14 + (-1)) _ _ _ h hP hS (lv_sub hl [0, 1, 2] rfl)
  refine key14 _ (fun M_2 v1_14 v2_14 H locs ls h hP hS hl => ?_) 4000 M_1 0 ((M_1 0 1) - 1) _ _ _ h hP hS (lv_sub hl [0, 1, 2] rfl)
  have hD := cwl_D hI (encM cI cZ am M_2)
  try dsimp only at h
  refine lv_iload_n hx hb dX6_close_45 rfl (lv_at hl 1 rfl) ?_
  replace h := Option.some.inj h
  subst h
  exact W.iret (v := v1_14) hx hb hr (fun t ht hW => ⟨⟨_, _, rfl, ⟨rfl, rfl⟩, (show va_P (dC, dI) vwCl (mW cI cZ am M_2) t.heap by rw [ht]; exact hP)⟩, hS.F ht⟩) hS.2.2 dX6_close_46
theorem jX6_state_X6 : ∀ w ∈ u_ws RX6 TX6 29, w ∈ wsX6_state := by decide +kernel
def L_X6_state_78 (K : Int32 → Int32 → Option (Int32 × Mem)) (M_1 : Mem) (p1 : Int32) (p2 : Int32) : Nat → Int32 → Int32 → Option (Int32 × Mem)
  | 0, _, _ => none
  | n + 1, v3_78, v4_78 => (if 10 ≤ v4_78 then K v3_78 v4_78 else gd (inb v4_78 (lm 16)) <| (if (M_1 16 v4_78.toNatClampNeg) = (p1 + 1) then L_X6_state_78 K M_1 p1 p2 n (v3_78 + 1) (v4_78 + 1) else L_X6_state_78 K M_1 p1 p2 n (v3_78 + 0) (v4_78 + 1)))
def F_X6_state (M : Mem) (p1 : Int32) (p2 : Int32) : Option (Int32 × Mem) :=
  bm (up2 M 0 0 0) fun M_1 => bi (F_X6_isWork M_1 p1) fun q_2 => (if q_2 = 0 then some ((-1), M_1) else (if p2 = 0 then gd (inb p1 (lm 3)) <| some ((M_1 3 p1.toNatClampNeg), M_1) else (if p2 = 1 then gd (inb p1 (lm 4)) <| some ((M_1 4 p1.toNatClampNeg), M_1) else (if p2 = 2 then gd (inb p1 (lm 5)) <| some ((M_1 5 p1.toNatClampNeg), M_1) else (if p2 = 3 then L_X6_state_78 (fun v3_78 v4_78 => some (v3_78, M_1)) M_1 p1 p2 4000 0 0 else (if p2 = 4 then gd (inb p1 (lm 8)) <| some ((M_1 8 p1.toNatClampNeg), M_1) else some ((-1), M_1)))))))
set_option maxHeartbeats 4000000 in
set_option maxRecDepth 100000 in
theorem k_X6_state (l : Launch) (dC : Nat → ClassId) (dI : Nat → Nat → Nat) (cI cZ : ClassId) (am : Nat → Nat) (hI : Inj 24 am) (M : Mem) (p1 : Int32) (p2 : Int32) (q : Int32 × Mem) (h : F_X6_state M p1 p2 = some q) : Met l yX6_state wsX6_state ({ frames := 2, cells := 0, slots := 0, locals := 43 }) (gm dC dI cI cZ am M [.ref (am 0), .int p1, .int p2]) (va_Qi (fun x M' => x = q.1 ∧ M' = q.2) (fun M' t => va_P (dC, dI) vwCl (mW cI cZ am M') t.heap) (Ac 24 am)) 0 0 (Ac 24 am) := by
  refine Met.ofW (cc := cX6_state) (maxL := 5) (ret := (some .int)) (by decide) rfl ?_
  intro p e s m args below meth c s₁ B hml hv
  obtain ⟨rfl, hP, hKK, hKz⟩ := hv
  have hx := B.exec
  have hb := B.bytes
  have hr := B.returns
  have hts := atoms_spec (ws := wsX6_state) B.pre
  have hown : s.vm.findClass RX6 = some m.cls := findClass_of_methodNamed B.named
  have hlocks := B.notSynchronized
  have hD := cwl_D hI (encM cI cZ am M)
  have hS : va_S (Ac 24 am) s.heap s.heap [] := va_S.rf
  have hl := lv_entry ([.ref (am 0), .int p1, .int p2]) (n := 5) (Nat.le_of_ble_eq_true rfl)
  rw [lg_entry_eq]
  generalize (lg_sl ([.ref (am 0), .int p1, .int p2]) ++ List.replicate (5 - (lg_sl ([.ref (am 0), .int p1, .int p2])).length) Slot.unset).toArray = ls at hl ⊢
  have hl : lv_has ls 5 [(0, .ref (am 0)), (1, .int p1), (2, .int p2)] := hl
  unfold F_X6_state at h
  refine lv_aload_n hx hb dX6_state_0 rfl (lv_at hl 0 rfl) ?_
  refine lv_iconst (v := 0) hx hb dX6_state_1 (by decide) ?_
  refine va_put (D := (dC, dI)) (ci := 6) (v := .int 0) (ty := .int) (C := RX6) (T := TX6) (N := 29) hx hb hts jX6_state_X6 tyX6 tyX6_ok nmX6 hown hKz hP hD hS 0 mw_0 rfl 0 (by decide) (hts (.fieldLink RX6 80 "LendThreadsModel" "thrown" "I") (by decide +kernel)) (fun _ h9 => h9) rfl (by decide +kernel) rfl rfl (Nat.le_of_ble_eq_true rfl) dX6_state_2 (fun H locs hP _ hS => ?_)
  have hP : va_P (dC, dI) vwCl (mW cI cZ am (up2 M 0 0 0)) H := by show va_P (dC, dI) vwCl (cwl 24 am (encM cI cZ am (up2 M 0 0 0))) H; rw [← em_thrown, ← cwl_set (by decide)]; exact hP
  have hD := cwl_D hI (encM cI cZ am (up2 M 0 0 0))
  generalize up2 M 0 0 0 = M_1 at hP hD h
  replace h := bm_e h
  try dsimp only at h
  refine lv_aload_n hx hb dX6_state_5 rfl (lv_at hl 0 rfl) ?_
  refine lv_iload_n hx hb dX6_state_6 rfl (lv_at hl 1 rfl) ?_
  obtain ⟨q_2, hq_2, h⟩ := bi_some h
  refine vp_callSi (va_Run.run (va_runV (As := [.int p1]) (rest := []) ⟨hx, hb, hml, hown, hts⟩ (k_X6_isWork l dC dI cI cZ am hI M_1 p1 q_2 hq_2) (cwV 1 hts gX6_state_X6_isWork rfl rfl rfl (by decide +kernel) ⟨Nat.le_of_ble_eq_true rfl, Nat.le_of_ble_eq_true rfl⟩) (gm_preV hKK hKz hP (va_recv hKz hP (ci := 6) (q0 := 0) rfl mw_0)) rfl rfl hl.1 rfl (lv_room (Nat.le_of_ble_eq_true rfl)) dX6_state_7 ⟨Nat.zero_le _, Nat.zero_le _⟩)) (fun r_3 hr_3 => ?_)
  replace hr_3 := hr_3.symm
  subst hr_3
  refine lv_if_ne (tgt := 15) hx hb dX6_state_10 (by decide) (fun c_4 => ?_) (fun c_4 => ?_)
  · rw [if_neg c_4] at h
    refine lv_iload_n hx hb dX6_state_15 rfl (lv_at hl 2 rfl) ?_
    by_cases c_5 : p2 = 0
    · rw [if_pos c_5] at h
      refine lv_tableIn (off := 36) (tgt := 52) hx hb dX6_state_16 (by rw [c_5]; decide) (by rw [c_5]; decide) (by rw [c_5]; decide) (by decide) ?_
      refine lv_aload_n hx hb dX6_state_52 rfl (lv_at hl 0 rfl) ?_
      refine va_get (D := (dC, dI)) (ci := 6) (v := .ref (am 3)) (C := RX6) (T := TX6) (N := 29) hx hb hts jX6_state_X6 hown hKz hP 0 mw_0 rfl 4 (by decide) (hts (.fieldLink RX6 16 "LendThreadsModel" "state" "[I") (by decide +kernel)) (fun _ h9 => h9) rfl dX6_state_53 ?_
      refine lv_iload_n hx hb dX6_state_56 rfl (lv_at hl 1 rfl) ?_
      obtain ⟨g_6, h⟩ := gd_some h
      refine va_iald hx hb hKz hP 3 0 (mw_arr (k := 3) (by decide) (by decide) (by decide)) rfl (inb_in g_6) dX6_state_57 ?_
      replace h := Option.some.inj h
      subst h
      exact W.iret (v := (M_1 3 p1.toNatClampNeg)) hx hb hr (fun t ht hW => ⟨⟨_, _, rfl, ⟨rfl, rfl⟩, (show va_P (dC, dI) vwCl (mW cI cZ am M_1) t.heap by rw [ht]; exact hP)⟩, hS.F ht⟩) hS.2.2 dX6_state_58
    rw [if_neg c_5] at h
    by_cases c_7 : p2 = 1
    · rw [if_pos c_7] at h
      refine lv_tableIn (off := 43) (tgt := 59) hx hb dX6_state_16 (by rw [c_7]; decide) (by rw [c_7]; decide) (by rw [c_7]; decide) (by decide) ?_
      refine lv_aload_n hx hb dX6_state_59 rfl (lv_at hl 0 rfl) ?_
      refine va_get (D := (dC, dI)) (ci := 6) (v := .ref (am 4)) (C := RX6) (T := TX6) (N := 29) hx hb hts jX6_state_X6 hown hKz hP 0 mw_0 rfl 5 (by decide) (hts (.fieldLink RX6 19 "LendThreadsModel" "step" "[I") (by decide +kernel)) (fun _ h9 => h9) rfl dX6_state_60 ?_
      refine lv_iload_n hx hb dX6_state_63 rfl (lv_at hl 1 rfl) ?_
      obtain ⟨g_8, h⟩ := gd_some h
      refine va_iald hx hb hKz hP 4 0 (mw_arr (k := 4) (by decide) (by decide) (by decide)) rfl (inb_in g_8) dX6_state_64 ?_
      replace h := Option.some.inj h
      subst h
      exact W.iret (v := (M_1 4 p1.toNatClampNeg)) hx hb hr (fun t ht hW => ⟨⟨_, _, rfl, ⟨rfl, rfl⟩, (show va_P (dC, dI) vwCl (mW cI cZ am M_1) t.heap by rw [ht]; exact hP)⟩, hS.F ht⟩) hS.2.2 dX6_state_65
    rw [if_neg c_7] at h
    by_cases c_9 : p2 = 2
    · rw [if_pos c_9] at h
      refine lv_tableIn (off := 50) (tgt := 66) hx hb dX6_state_16 (by rw [c_9]; decide) (by rw [c_9]; decide) (by rw [c_9]; decide) (by decide) ?_
      refine lv_aload_n hx hb dX6_state_66 rfl (lv_at hl 0 rfl) ?_
      refine va_get (D := (dC, dI)) (ci := 6) (v := .ref (am 5)) (C := RX6) (T := TX6) (N := 29) hx hb hts jX6_state_X6 hown hKz hP 0 mw_0 rfl 6 (by decide) (hts (.fieldLink RX6 22 "LendThreadsModel" "got" "[I") (by decide +kernel)) (fun _ h9 => h9) rfl dX6_state_67 ?_
      refine lv_iload_n hx hb dX6_state_70 rfl (lv_at hl 1 rfl) ?_
      obtain ⟨g_10, h⟩ := gd_some h
      refine va_iald hx hb hKz hP 5 0 (mw_arr (k := 5) (by decide) (by decide) (by decide)) rfl (inb_in g_10) dX6_state_71 ?_
      replace h := Option.some.inj h
      subst h
      exact W.iret (v := (M_1 5 p1.toNatClampNeg)) hx hb hr (fun t ht hW => ⟨⟨_, _, rfl, ⟨rfl, rfl⟩, (show va_P (dC, dI) vwCl (mW cI cZ am M_1) t.heap by rw [ht]; exact hP)⟩, hS.F ht⟩) hS.2.2 dX6_state_72
    rw [if_neg c_9] at h
    by_cases c_11 : p2 = 3
    · rw [if_pos c_11] at h
      refine lv_tableIn (off := 57) (tgt := 73) hx hb dX6_state_16 (by rw [c_11]; decide) (by rw [c_11]; decide) (by rw [c_11]; decide) (by decide) ?_
      refine lv_iconst (v := 0) hx hb dX6_state_73 (by decide) ?_
      refine lv_istore_n (lv' := [(3, .int 0), (0, .ref (am 0)), (1, .int p1), (2, .int p2)]) hx hb dX6_state_74 rfl hl (by decide) rfl (fun ls hl => ?_)
      refine lv_iconst (v := 0) hx hb dX6_state_75 (by decide) ?_
      refine lv_istore (lv' := [(4, .int 0), (3, .int 0), (0, .ref (am 0)), (1, .int p1), (2, .int p2)]) hx hb dX6_state_76 hl (by decide) rfl (fun ls hl => ?_)
      have key78 : ∀ (K : Int32 → Int32 → Option (Int32 × Mem)), (∀ (v3_78 v4_78 : Int32) (H : Heap) (locs : List Loc) (ls : Array Slot), K v3_78 v4_78 = some q → va_P (dC, dI) vwCl (mW cI cZ am M_1) H → va_S (Ac 24 am) s.heap H locs → lv_has ls 5 [(4, .int v4_78), (3, .int v3_78), (0, .ref (am 0)), (1, .int p1), (2, .int p2)] → W p l e (headSpec wsX6_state ({ frames := 2, cells := 0, slots := 0, locals := 43 })).room s m ([.ref (am 0), .int p1, .int p2] : List Value).toArray below meth c H locs 0 0 (MQ below (va_Qi (fun x M' => x = q.1 ∧ M' = q.2) (fun M' t => va_P (dC, dI) vwCl (mW cI cZ am M') t.heap) (Ac 24 am)) ([.ref (am 0), .int p1, .int p2] : List Value).toArray s 0 0 (Ac 24 am)) (F0 m 112 ls [])) → ∀ (n : Nat), ∀ (v3_78 v4_78 : Int32) (H : Heap) (locs : List Loc) (ls : Array Slot), L_X6_state_78 K M_1 p1 p2 n v3_78 v4_78 = some q → va_P (dC, dI) vwCl (mW cI cZ am M_1) H → va_S (Ac 24 am) s.heap H locs → lv_has ls 5 [(4, .int v4_78), (3, .int v3_78), (0, .ref (am 0)), (1, .int p1), (2, .int p2)] → W p l e (headSpec wsX6_state ({ frames := 2, cells := 0, slots := 0, locals := 43 })).room s m ([.ref (am 0), .int p1, .int p2] : List Value).toArray below meth c H locs 0 0 (MQ below (va_Qi (fun x M' => x = q.1 ∧ M' = q.2) (fun M' t => va_P (dC, dI) vwCl (mW cI cZ am M') t.heap) (Ac 24 am)) ([.ref (am 0), .int p1, .int p2] : List Value).toArray s 0 0 (Ac 24 am)) (F0 m 78 ls []) := by
        intro K hk n
        induction n with
        | zero =>
          intro v3_78 v4_78 H locs ls h
          exact absurd h (by simp [L_X6_state_78])
        | succ n ih =>
          intro v3_78 v4_78 H locs ls h hP hS hl
          have hD := cwl_D hI (encM cI cZ am M_1)
          simp only [L_X6_state_78] at h
          refine lv_iload hx hb dX6_state_78 (lv_at hl 0 rfl) ?_
          refine lv_bipush (v := 10) hx hb dX6_state_80 (by decide) ?_
          refine lv_icmp_ge (tgt := 112) hx hb dX6_state_82 (by decide) (fun c_12 => ?_) (fun c_12 => ?_)
          · rw [if_pos c_12] at h
            exact hk v3_78 v4_78 _ _ _ h hP hS (lv_sub hl [0, 1, 2, 3, 4] rfl)
          · rw [if_neg c_12] at h
            refine lv_iload_n hx hb dX6_state_85 rfl (lv_at hl 1 rfl) ?_
            refine lv_aload_n hx hb dX6_state_86 rfl (lv_at hl 2 rfl) ?_
            refine va_get (D := (dC, dI)) (ci := 6) (v := .ref (am 16)) (C := RX6) (T := TX6) (N := 29) hx hb hts jX6_state_X6 hown hKz hP 0 mw_0 rfl 18 (by decide) (hts (.fieldLink RX6 56 "LendThreadsModel" "owner" "[I") (by decide +kernel)) (fun _ h9 => h9) rfl dX6_state_87 ?_
            refine lv_iload hx hb dX6_state_90 (lv_at hl 0 rfl) ?_
            obtain ⟨g_13, h⟩ := gd_some h
            refine va_iald hx hb hKz hP 16 0 (mw_arr (k := 16) (by decide) (by decide) (by decide)) rfl (inb_in g_13) dX6_state_92 ?_
            refine lv_iload_n hx hb dX6_state_93 rfl (lv_at hl 3 rfl) ?_
            refine lv_iconst (v := 1) hx hb dX6_state_94 (by decide) ?_
            refine lv_iadd hx hb dX6_state_95 ?_
            refine lv_icmp_ne (tgt := 103) hx hb dX6_state_96 (by decide) (fun c_14 => ?_) (fun c_14 => ?_)
            · rw [if_neg c_14] at h
              refine lv_iconst (v := 0) hx hb dX6_state_103 (by decide) ?_
              refine lv_iadd hx hb dX6_state_104 ?_
              refine lv_istore_n (lv' := [(3, .int (v3_78 + 0)), (4, .int v4_78), (0, .ref (am 0)), (1, .int p1), (2, .int p2)]) hx hb dX6_state_105 rfl hl (by decide) rfl (fun ls hl => ?_)
              refine lv_iinc (v := v4_78 + 1) (lv' := [(4, .int (v4_78 + 1)), (3, .int (v3_78 + 0)), (0, .ref (am 0)), (1, .int p1), (2, .int p2)]) hx hb dX6_state_106 hl (k := 1) rfl rfl (by decide) rfl (fun ls hl => ?_)
              refine lv_goto (tgt := 78) hx hb dX6_state_109 (by decide) ?_
              exact ih (v3_78 + 0) (v4_78 + 1) _ _ _ h hP hS (lv_sub hl [0, 1, 2, 3, 4] rfl)
            · rw [if_pos c_14] at h
              refine lv_iconst (v := 1) hx hb dX6_state_99 (by decide) ?_
              refine lv_goto (tgt := 104) hx hb dX6_state_100 (by decide) ?_
              refine lv_iadd hx hb dX6_state_104 ?_
              refine lv_istore_n (lv' := [(3, .int (v3_78 + 1)), (4, .int v4_78), (0, .ref (am 0)), (1, .int p1), (2, .int p2)]) hx hb dX6_state_105 rfl hl (by decide) rfl (fun ls hl => ?_)
              refine lv_iinc (v := v4_78 + 1) (lv' := [(4, .int (v4_78 + 1)), (3, .int (v3_78 + 1)), (0, .ref (am 0)), (1, .int p1), (2, .int p2)]) hx hb dX6_state_106 hl (k := 1) rfl rfl (by decide) rfl (fun ls hl => ?_)
              refine lv_goto (tgt := 78) hx hb dX6_state_109 (by decide) ?_
              exact ih (v3_78 + 1) (v4_78 + 1) _ _ _ h hP hS (lv_sub hl [0, 1, 2, 3, 4] rfl)
      refine key78 _ (fun v3_78 v4_78 H locs ls h hP hS hl => ?_) 4000 0 0 _ _ _ h hP hS (lv_sub hl [0, 1, 2, 3, 4] rfl)
      have hD := cwl_D hI (encM cI cZ am M_1)
      try dsimp only at h
      refine lv_iload_n hx hb dX6_state_112 rfl (lv_at hl 1 rfl) ?_
      replace h := Option.some.inj h
      subst h
      exact W.iret (v := v3_78) hx hb hr (fun t ht hW => ⟨⟨_, _, rfl, ⟨rfl, rfl⟩, (show va_P (dC, dI) vwCl (mW cI cZ am M_1) t.heap by rw [ht]; exact hP)⟩, hS.F ht⟩) hS.2.2 dX6_state_113
    rw [if_neg c_11] at h
    by_cases c_15 : p2 = 4
    · rw [if_pos c_15] at h
      refine lv_tableIn (off := 98) (tgt := 114) hx hb dX6_state_16 (by rw [c_15]; decide) (by rw [c_15]; decide) (by rw [c_15]; decide) (by decide) ?_
      refine lv_aload_n hx hb dX6_state_114 rfl (lv_at hl 0 rfl) ?_
      refine va_get (D := (dC, dI)) (ci := 6) (v := .ref (am 8)) (C := RX6) (T := TX6) (N := 29) hx hb hts jX6_state_X6 hown hKz hP 0 mw_0 rfl 9 (by decide) (hts (.fieldLink RX6 32 "LendThreadsModel" "asked" "[I") (by decide +kernel)) (fun _ h9 => h9) rfl dX6_state_115 ?_
      refine lv_iload_n hx hb dX6_state_118 rfl (lv_at hl 1 rfl) ?_
      obtain ⟨g_16, h⟩ := gd_some h
      refine va_iald hx hb hKz hP 8 0 (mw_arr (k := 8) (by decide) (by decide) (by decide)) rfl (inb_in g_16) dX6_state_119 ?_
      replace h := Option.some.inj h
      subst h
      exact W.iret (v := (M_1 8 p1.toNatClampNeg)) hx hb hr (fun t ht hW => ⟨⟨_, _, rfl, ⟨rfl, rfl⟩, (show va_P (dC, dI) vwCl (mW cI cZ am M_1) t.heap by rw [ht]; exact hP)⟩, hS.F ht⟩) hS.2.2 dX6_state_120
    rw [if_neg c_15] at h
    refine lv_tableOut (tgt := 121) hx hb dX6_state_16 (sw_out c_5 c_7 c_9 c_11 c_15) (by decide) ?_
    refine lv_iconst (v := (-1)) hx hb dX6_state_121 (by decide) ?_
    replace h := Option.some.inj h
    subst h
    exact W.iret (v := (-1)) hx hb hr (fun t ht hW => ⟨⟨_, _, rfl, ⟨rfl, rfl⟩, (show va_P (dC, dI) vwCl (mW cI cZ am M_1) t.heap by rw [ht]; exact hP)⟩, hS.F ht⟩) hS.2.2 dX6_state_122
  · rw [if_pos c_4] at h
    refine lv_iconst (v := (-1)) hx hb dX6_state_13 (by decide) ?_
    replace h := Option.some.inj h
    subst h
    exact W.iret (v := (-1)) hx hb hr (fun t ht hW => ⟨⟨_, _, rfl, ⟨rfl, rfl⟩, (show va_P (dC, dI) vwCl (mW cI cZ am M_1) t.heap by rw [ht]; exact hP)⟩, hS.F ht⟩) hS.2.2 dX6_state_14
theorem jX6_has_X6 : ∀ w ∈ u_ws RX6 TX6 29, w ∈ wsX6_has := by decide +kernel
def F_X6_has (M : Mem) (p1 : Int32) : Option (Int32 × Mem) :=
  bm (up2 M 0 0 0) fun M_1 => bi (F_X6_in M_1 p1 0 9) fun q_2 => (if q_2 = 0 then some ((-1), M_1) else gd (inb p1 (lm 16)) <| some (((M_1 16 p1.toNatClampNeg) - 1), M_1))
set_option maxHeartbeats 4000000 in
set_option maxRecDepth 100000 in
theorem k_X6_has (l : Launch) (dC : Nat → ClassId) (dI : Nat → Nat → Nat) (cI cZ : ClassId) (am : Nat → Nat) (hI : Inj 24 am) (M : Mem) (p1 : Int32) (q : Int32 × Mem) (h : F_X6_has M p1 = some q) : Met l yX6_has wsX6_has ({ frames := 1, cells := 0, slots := 0, locals := 22 }) (gm dC dI cI cZ am M [.ref (am 0), .int p1]) (va_Qi (fun x M' => x = q.1 ∧ M' = q.2) (fun M' t => va_P (dC, dI) vwCl (mW cI cZ am M') t.heap) (Ac 24 am)) 0 0 (Ac 24 am) := by
  refine Met.ofW (cc := cX6_has) (maxL := 2) (ret := (some .int)) (by decide) rfl ?_
  intro p e s m args below meth c s₁ B hml hv
  obtain ⟨rfl, hP, hKK, hKz⟩ := hv
  have hx := B.exec
  have hb := B.bytes
  have hr := B.returns
  have hts := atoms_spec (ws := wsX6_has) B.pre
  have hown : s.vm.findClass RX6 = some m.cls := findClass_of_methodNamed B.named
  have hlocks := B.notSynchronized
  have hD := cwl_D hI (encM cI cZ am M)
  have hS : va_S (Ac 24 am) s.heap s.heap [] := va_S.rf
  have hl := lv_entry ([.ref (am 0), .int p1]) (n := 2) (Nat.le_of_ble_eq_true rfl)
  rw [lg_entry_eq]
  generalize (lg_sl ([.ref (am 0), .int p1]) ++ List.replicate (2 - (lg_sl ([.ref (am 0), .int p1])).length) Slot.unset).toArray = ls at hl ⊢
  have hl : lv_has ls 2 [(0, .ref (am 0)), (1, .int p1)] := hl
  unfold F_X6_has at h
  refine lv_aload_n hx hb dX6_has_0 rfl (lv_at hl 0 rfl) ?_
  refine lv_iconst (v := 0) hx hb dX6_has_1 (by decide) ?_
  refine va_put (D := (dC, dI)) (ci := 6) (v := .int 0) (ty := .int) (C := RX6) (T := TX6) (N := 29) hx hb hts jX6_has_X6 tyX6 tyX6_ok nmX6 hown hKz hP hD hS 0 mw_0 rfl 0 (by decide) (hts (.fieldLink RX6 80 "LendThreadsModel" "thrown" "I") (by decide +kernel)) (fun _ h9 => h9) rfl (by decide +kernel) rfl rfl (Nat.le_of_ble_eq_true rfl) dX6_has_2 (fun H locs hP _ hS => ?_)
  have hP : va_P (dC, dI) vwCl (mW cI cZ am (up2 M 0 0 0)) H := by show va_P (dC, dI) vwCl (cwl 24 am (encM cI cZ am (up2 M 0 0 0))) H; rw [← em_thrown, ← cwl_set (by decide)]; exact hP
  have hD := cwl_D hI (encM cI cZ am (up2 M 0 0 0))
  generalize up2 M 0 0 0 = M_1 at hP hD h
  replace h := bm_e h
  try dsimp only at h
  refine lv_iload_n hx hb dX6_has_5 rfl (lv_at hl 1 rfl) ?_
  refine lv_iconst (v := 0) hx hb dX6_has_6 (by decide) ?_
  refine lv_bipush (v := 9) hx hb dX6_has_7 (by decide) ?_
  obtain ⟨q_2, hq_2, h⟩ := bi_some h
  refine vp_callSi (va_Run.run (va_runS (As := [.int p1, .int 0, .int 9]) (rest := []) ⟨hx, hb, hml, hown, hts⟩ (k_X6_in l dC dI cI cZ am hI M_1 p1 0 9 q_2 hq_2) (va_cwS 3 hts gX6_has_X6_in rfl rfl rfl (by decide +kernel) ⟨Nat.le_of_ble_eq_true rfl, Nat.le_of_ble_eq_true rfl⟩) (gm_preS hKK hKz hP) rfl rfl hl.1 rfl (lv_room (Nat.le_of_ble_eq_true rfl)) dX6_has_9 ⟨Nat.zero_le _, Nat.zero_le _⟩)) (fun r_3 hr_3 => ?_)
  replace hr_3 := hr_3.symm
  subst hr_3
  refine lv_if_eq (tgt := 26) hx hb dX6_has_12 (by decide) (fun c_4 => ?_) (fun c_4 => ?_)
  · rw [if_pos c_4] at h
    refine lv_iconst (v := (-1)) hx hb dX6_has_26 (by decide) ?_
    replace h := Option.some.inj h
    subst h
    exact W.iret (v := (-1)) hx hb hr (fun t ht hW => ⟨⟨_, _, rfl, ⟨rfl, rfl⟩, (show va_P (dC, dI) vwCl (mW cI cZ am M_1) t.heap by rw [ht]; exact hP)⟩, hS.F ht⟩) hS.2.2 dX6_has_27
  · rw [if_neg c_4] at h
    refine lv_aload_n hx hb dX6_has_15 rfl (lv_at hl 0 rfl) ?_
    refine va_get (D := (dC, dI)) (ci := 6) (v := .ref (am 16)) (C := RX6) (T := TX6) (N := 29) hx hb hts jX6_has_X6 hown hKz hP 0 mw_0 rfl 18 (by decide) (hts (.fieldLink RX6 56 "LendThreadsModel" "owner" "[I") (by decide +kernel)) (fun _ h9 => h9) rfl dX6_has_16 ?_
    refine lv_iload_n hx hb dX6_has_19 rfl (lv_at hl 1 rfl) ?_
    obtain ⟨g_5, h⟩ := gd_some h
    refine va_iald hx hb hKz hP 16 0 (mw_arr (k := 16) (by decide) (by decide) (by decide)) rfl (inb_in g_5) dX6_has_20 ?_
    refine lv_iconst (v := 1) hx hb dX6_has_21 (by decide) ?_
    refine lv_isub hx hb dX6_has_22 ?_
    refine lv_goto (tgt := 27) hx hb dX6_has_23 (by decide) ?_
    replace h := Option.some.inj h
    subst h
    exact W.iret (v := ((M_1 16 p1.toNatClampNeg) - 1)) hx hb hr (fun t ht hW => ⟨⟨_, _, rfl, ⟨rfl, rfl⟩, (show va_P (dC, dI) vwCl (mW cI cZ am M_1) t.heap by rw [ht]; exact hP)⟩, hS.F ht⟩) hS.2.2 dX6_has_27
theorem jX6_line_X6 : ∀ w ∈ u_ws RX6 TX6 29, w ∈ wsX6_line := by decide +kernel
def L_X6_line_7 (K : Int32 → Option (Int32 × Mem)) (M_1 : Mem) (p1 : Int32) (p2 : Int32) : Nat → Int32 → Option (Int32 × Mem)
  | 0, _ => none
  | n + 1, v3_7 => (if (M_1 0 1) ≤ v3_7 then K v3_7 else bi (F_X6_in M_1 p1 0 9) fun q_3 => (if q_3 = 0 then K v3_7 else gd (inb v3_7 (lm 10)) <| (if (M_1 10 v3_7.toNatClampNeg) = (p1 + 1) then bi (F_X6_ahead M_1 p1 v3_7) fun q_8 => (if q_8 = p2 then some (v3_7, M_1) else L_X6_line_7 K M_1 p1 p2 n (v3_7 + 1)) else L_X6_line_7 K M_1 p1 p2 n (v3_7 + 1))))
def F_X6_line (M : Mem) (p1 : Int32) (p2 : Int32) : Option (Int32 × Mem) :=
  bm (up2 M 0 0 0) fun M_1 => L_X6_line_7 (fun v3_7 => some ((-1), M_1)) M_1 p1 p2 4000 0
set_option maxHeartbeats 4000000 in
set_option maxRecDepth 100000 in
theorem k_X6_line (l : Launch) (dC : Nat → ClassId) (dI : Nat → Nat → Nat) (cI cZ : ClassId) (am : Nat → Nat) (hI : Inj 24 am) (M : Mem) (p1 : Int32) (p2 : Int32) (q : Int32 × Mem) (h : F_X6_line M p1 p2 = some q) : Met l yX6_line wsX6_line ({ frames := 1, cells := 0, slots := 0, locals := 24 }) (gm dC dI cI cZ am M [.ref (am 0), .int p1, .int p2]) (va_Qi (fun x M' => x = q.1 ∧ M' = q.2) (fun M' t => va_P (dC, dI) vwCl (mW cI cZ am M') t.heap) (Ac 24 am)) 0 0 (Ac 24 am) := by
  refine Met.ofW (cc := cX6_line) (maxL := 4) (ret := (some .int)) (by decide) rfl ?_
  intro p e s m args below meth c s₁ B hml hv
  obtain ⟨rfl, hP, hKK, hKz⟩ := hv
  have hx := B.exec
  have hb := B.bytes
  have hr := B.returns
  have hts := atoms_spec (ws := wsX6_line) B.pre
  have hown : s.vm.findClass RX6 = some m.cls := findClass_of_methodNamed B.named
  have hlocks := B.notSynchronized
  have hD := cwl_D hI (encM cI cZ am M)
  have hS : va_S (Ac 24 am) s.heap s.heap [] := va_S.rf
  have hl := lv_entry ([.ref (am 0), .int p1, .int p2]) (n := 4) (Nat.le_of_ble_eq_true rfl)
  rw [lg_entry_eq]
  generalize (lg_sl ([.ref (am 0), .int p1, .int p2]) ++ List.replicate (4 - (lg_sl ([.ref (am 0), .int p1, .int p2])).length) Slot.unset).toArray = ls at hl ⊢
  have hl : lv_has ls 4 [(0, .ref (am 0)), (1, .int p1), (2, .int p2)] := hl
  unfold F_X6_line at h
  refine lv_aload_n hx hb dX6_line_0 rfl (lv_at hl 0 rfl) ?_
  refine lv_iconst (v := 0) hx hb dX6_line_1 (by decide) ?_
  refine va_put (D := (dC, dI)) (ci := 6) (v := .int 0) (ty := .int) (C := RX6) (T := TX6) (N := 29) hx hb hts jX6_line_X6 tyX6 tyX6_ok nmX6 hown hKz hP hD hS 0 mw_0 rfl 0 (by decide) (hts (.fieldLink RX6 80 "LendThreadsModel" "thrown" "I") (by decide +kernel)) (fun _ h9 => h9) rfl (by decide +kernel) rfl rfl (Nat.le_of_ble_eq_true rfl) dX6_line_2 (fun H locs hP _ hS => ?_)
  have hP : va_P (dC, dI) vwCl (mW cI cZ am (up2 M 0 0 0)) H := by show va_P (dC, dI) vwCl (cwl 24 am (encM cI cZ am (up2 M 0 0 0))) H; rw [← em_thrown, ← cwl_set (by decide)]; exact hP
  have hD := cwl_D hI (encM cI cZ am (up2 M 0 0 0))
  generalize up2 M 0 0 0 = M_1 at hP hD h
  replace h := bm_e h
  try dsimp only at h
  refine lv_iconst (v := 0) hx hb dX6_line_5 (by decide) ?_
  refine lv_istore_n (lv' := [(3, .int 0), (0, .ref (am 0)), (1, .int p1), (2, .int p2)]) hx hb dX6_line_6 rfl hl (by decide) rfl (fun ls hl => ?_)
  have key7 : ∀ (K : Int32 → Option (Int32 × Mem)), (∀ (v3_7 : Int32) (H : Heap) (locs : List Loc) (ls : Array Slot), K v3_7 = some q → va_P (dC, dI) vwCl (mW cI cZ am M_1) H → va_S (Ac 24 am) s.heap H locs → lv_has ls 4 [(3, .int v3_7), (0, .ref (am 0)), (1, .int p1), (2, .int p2)] → W p l e (headSpec wsX6_line ({ frames := 1, cells := 0, slots := 0, locals := 24 })).room s m ([.ref (am 0), .int p1, .int p2] : List Value).toArray below meth c H locs 0 0 (MQ below (va_Qi (fun x M' => x = q.1 ∧ M' = q.2) (fun M' t => va_P (dC, dI) vwCl (mW cI cZ am M') t.heap) (Ac 24 am)) ([.ref (am 0), .int p1, .int p2] : List Value).toArray s 0 0 (Ac 24 am)) (F0 m 55 ls [])) → ∀ (n : Nat), ∀ (v3_7 : Int32) (H : Heap) (locs : List Loc) (ls : Array Slot), L_X6_line_7 K M_1 p1 p2 n v3_7 = some q → va_P (dC, dI) vwCl (mW cI cZ am M_1) H → va_S (Ac 24 am) s.heap H locs → lv_has ls 4 [(3, .int v3_7), (0, .ref (am 0)), (1, .int p1), (2, .int p2)] → W p l e (headSpec wsX6_line ({ frames := 1, cells := 0, slots := 0, locals := 24 })).room s m ([.ref (am 0), .int p1, .int p2] : List Value).toArray below meth c H locs 0 0 (MQ below (va_Qi (fun x M' => x = q.1 ∧ M' = q.2) (fun M' t => va_P (dC, dI) vwCl (mW cI cZ am M') t.heap) (Ac 24 am)) ([.ref (am 0), .int p1, .int p2] : List Value).toArray s 0 0 (Ac 24 am)) (F0 m 7 ls []) := by
    intro K hk n
    induction n with
    | zero =>
      intro v3_7 H locs ls h
      exact absurd h (by simp [L_X6_line_7])
    | succ n ih =>
      intro v3_7 H locs ls h hP hS hl
      have hD := cwl_D hI (encM cI cZ am M_1)
      simp only [L_X6_line_7] at h
      refine lv_iload_n hx hb dX6_line_7 rfl (lv_at hl 0 rfl) ?_
      refine lv_aload_n hx hb dX6_line_8 rfl (lv_at hl 1 rfl) ?_
      refine va_get (D := (dC, dI)) (ci := 6) (v := .int (M_1 0 1)) (C := RX6) (T := TX6) (N := 29) hx hb hts jX6_line_X6 hown hKz hP 0 mw_0 rfl 1 (by decide) (hts (.fieldLink RX6 84 "LendThreadsModel" "works" "I") (by decide +kernel)) (fun _ h9 => h9) rfl dX6_line_9 ?_
      refine lv_icmp_ge (tgt := 55) hx hb dX6_line_12 (by decide) (fun c_2 => ?_) (fun c_2 => ?_)
      · rw [if_pos c_2] at h
        exact hk v3_7 _ _ _ h hP hS (lv_sub hl [0, 1, 2, 3] rfl)
      · rw [if_neg c_2] at h
        refine lv_iload_n hx hb dX6_line_15 rfl (lv_at hl 2 rfl) ?_
        refine lv_iconst (v := 0) hx hb dX6_line_16 (by decide) ?_
        refine lv_bipush (v := 9) hx hb dX6_line_17 (by decide) ?_
        obtain ⟨q_3, hq_3, h⟩ := bi_some h
        refine vp_callSi (va_Run.run (va_runS (As := [.int p1, .int 0, .int 9]) (rest := []) ⟨hx, hb, hml, hown, hts⟩ (k_X6_in l dC dI cI cZ am hI M_1 p1 0 9 q_3 hq_3) (va_cwS 3 hts gX6_line_X6_in rfl rfl rfl (by decide +kernel) ⟨Nat.le_of_ble_eq_true rfl, Nat.le_of_ble_eq_true rfl⟩) (gm_preS hKK hKz hP) rfl rfl hl.1 rfl (lv_room (Nat.le_of_ble_eq_true rfl)) dX6_line_19 ⟨Nat.zero_le _, Nat.zero_le _⟩)) (fun r_4 hr_4 => ?_)
        replace hr_4 := hr_4.symm
        subst hr_4
        refine lv_if_eq (tgt := 55) hx hb dX6_line_22 (by decide) (fun c_5 => ?_) (fun c_5 => ?_)
        · rw [if_pos c_5] at h
          exact hk v3_7 _ _ _ h hP hS (lv_sub hl [0, 1, 2, 3] rfl)
        · rw [if_neg c_5] at h
          refine lv_aload_n hx hb dX6_line_25 rfl (lv_at hl 1 rfl) ?_
          refine va_get (D := (dC, dI)) (ci := 6) (v := .ref (am 10)) (C := RX6) (T := TX6) (N := 29) hx hb hts jX6_line_X6 hown hKz hP 0 mw_0 rfl 11 (by decide) (hts (.fieldLink RX6 38 "LendThreadsModel" "waitsFor" "[I") (by decide +kernel)) (fun _ h9 => h9) rfl dX6_line_26 ?_
          refine lv_iload_n hx hb dX6_line_29 rfl (lv_at hl 0 rfl) ?_
          obtain ⟨g_6, h⟩ := gd_some h
          refine va_iald hx hb hKz hP 10 0 (mw_arr (k := 10) (by decide) (by decide) (by decide)) rfl (inb_in g_6) dX6_line_30 ?_
          refine lv_iload_n hx hb dX6_line_31 rfl (lv_at hl 2 rfl) ?_
          refine lv_iconst (v := 1) hx hb dX6_line_32 (by decide) ?_
          refine lv_iadd hx hb dX6_line_33 ?_
          refine lv_icmp_ne (tgt := 49) hx hb dX6_line_34 (by decide) (fun c_7 => ?_) (fun c_7 => ?_)
          · rw [if_neg c_7] at h
            refine lv_iinc (v := v3_7 + 1) (lv' := [(3, .int (v3_7 + 1)), (0, .ref (am 0)), (1, .int p1), (2, .int p2)]) hx hb dX6_line_49 hl (k := 0) rfl rfl (by decide) rfl (fun ls hl => ?_)
            refine lv_goto (tgt := 7) hx hb dX6_line_52 (by decide) ?_
            exact ih (v3_7 + 1) _ _ _ h hP hS (lv_sub hl [0, 1, 2, 3] rfl)
          · rw [if_pos c_7] at h
            refine lv_aload_n hx hb dX6_line_37 rfl (lv_at hl 1 rfl) ?_
            refine lv_iload_n hx hb dX6_line_38 rfl (lv_at hl 2 rfl) ?_
            refine lv_iload_n hx hb dX6_line_39 rfl (lv_at hl 0 rfl) ?_
            obtain ⟨q_8, hq_8, h⟩ := bi_some h
            refine vp_callSi (va_Run.run (va_runV (As := [.int p1, .int v3_7]) (rest := []) ⟨hx, hb, hml, hown, hts⟩ (k_X6_ahead l dC dI cI cZ am hI M_1 p1 v3_7 q_8 hq_8) (cwV 2 hts gX6_line_X6_ahead rfl rfl rfl (by decide +kernel) ⟨Nat.le_of_ble_eq_true rfl, Nat.le_of_ble_eq_true rfl⟩) (gm_preV hKK hKz hP (va_recv hKz hP (ci := 6) (q0 := 0) rfl mw_0)) rfl rfl hl.1 rfl (lv_room (Nat.le_of_ble_eq_true rfl)) dX6_line_40 ⟨Nat.zero_le _, Nat.zero_le _⟩)) (fun r_9 hr_9 => ?_)
            replace hr_9 := hr_9.symm
            subst hr_9
            refine lv_iload_n hx hb dX6_line_43 rfl (lv_at hl 3 rfl) ?_
            refine lv_icmp_ne (tgt := 49) hx hb dX6_line_44 (by decide) (fun c_10 => ?_) (fun c_10 => ?_)
            · rw [if_neg c_10] at h
              refine lv_iinc (v := v3_7 + 1) (lv' := [(3, .int (v3_7 + 1)), (0, .ref (am 0)), (1, .int p1), (2, .int p2)]) hx hb dX6_line_49 hl (k := 0) rfl rfl (by decide) rfl (fun ls hl => ?_)
              refine lv_goto (tgt := 7) hx hb dX6_line_52 (by decide) ?_
              exact ih (v3_7 + 1) _ _ _ h hP hS (lv_sub hl [0, 1, 2, 3] rfl)
            · rw [if_pos c_10] at h
              refine lv_iload_n hx hb dX6_line_47 rfl (lv_at hl 0 rfl) ?_
              replace h := Option.some.inj h
              subst h
              exact W.iret (v := v3_7) hx hb hr (fun t ht hW => ⟨⟨_, _, rfl, ⟨rfl, rfl⟩, (show va_P (dC, dI) vwCl (mW cI cZ am M_1) t.heap by rw [ht]; exact hP)⟩, hS.F ht⟩) hS.2.2 dX6_line_48
  refine key7 _ (fun v3_7 H locs ls h hP hS hl => ?_) 4000 0 _ _ _ h hP hS (lv_sub hl [0, 1, 2, 3] rfl)
  have hD := cwl_D hI (encM cI cZ am M_1)
  try dsimp only at h
  refine lv_iconst (v := (-1)) hx hb dX6_line_55 (by decide) ?_
  replace h := Option.some.inj h
  subst h
  exact W.iret (v := (-1)) hx hb hr (fun t ht hW => ⟨⟨_, _, rfl, ⟨rfl, rfl⟩, (show va_P (dC, dI) vwCl (mW cI cZ am M_1) t.heap by rw [ht]; exact hP)⟩, hS.F ht⟩) hS.2.2 dX6_line_56
theorem jX6_value_X6 : ∀ w ∈ u_ws RX6 TX6 29, w ∈ wsX6_value := by decide +kernel
def F_X6_value (M : Mem) (p1 : Int32) : Option (Int32 × Mem) :=
  bi (F_X6_in M p1 0 9) fun q_1 => (if q_1 = 0 then bm (up2 M 0 0 1) fun M_4 => (if (M_4 0 0) ≤ 0 then gd (inb p1 (lm 17)) <| some ((M_4 17 p1.toNatClampNeg), M_4) else some (0, M_4)) else bm (up2 M 0 0 0) fun M_7 => (if (M_7 0 0) ≤ 0 then gd (inb p1 (lm 17)) <| some ((M_7 17 p1.toNatClampNeg), M_7) else some (0, M_7)))
set_option maxHeartbeats 4000000 in
set_option maxRecDepth 100000 in
theorem k_X6_value (l : Launch) (dC : Nat → ClassId) (dI : Nat → Nat → Nat) (cI cZ : ClassId) (am : Nat → Nat) (hI : Inj 24 am) (M : Mem) (p1 : Int32) (q : Int32 × Mem) (h : F_X6_value M p1 = some q) : Met l yX6_value wsX6_value ({ frames := 1, cells := 0, slots := 0, locals := 22 }) (gm dC dI cI cZ am M [.ref (am 0), .int p1]) (va_Qi (fun x M' => x = q.1 ∧ M' = q.2) (fun M' t => va_P (dC, dI) vwCl (mW cI cZ am M') t.heap) (Ac 24 am)) 0 0 (Ac 24 am) := by
  refine Met.ofW (cc := cX6_value) (maxL := 2) (ret := (some .int)) (by decide) rfl ?_
  intro p e s m args below meth c s₁ B hml hv
  obtain ⟨rfl, hP, hKK, hKz⟩ := hv
  have hx := B.exec
  have hb := B.bytes
  have hr := B.returns
  have hts := atoms_spec (ws := wsX6_value) B.pre
  have hown : s.vm.findClass RX6 = some m.cls := findClass_of_methodNamed B.named
  have hlocks := B.notSynchronized
  have hD := cwl_D hI (encM cI cZ am M)
  have hS : va_S (Ac 24 am) s.heap s.heap [] := va_S.rf
  have hl := lv_entry ([.ref (am 0), .int p1]) (n := 2) (Nat.le_of_ble_eq_true rfl)
  rw [lg_entry_eq]
  generalize (lg_sl ([.ref (am 0), .int p1]) ++ List.replicate (2 - (lg_sl ([.ref (am 0), .int p1])).length) Slot.unset).toArray = ls at hl ⊢
  have hl : lv_has ls 2 [(0, .ref (am 0)), (1, .int p1)] := hl
  unfold F_X6_value at h
  refine lv_aload_n hx hb dX6_value_0 rfl (lv_at hl 0 rfl) ?_
  refine lv_iload_n hx hb dX6_value_1 rfl (lv_at hl 1 rfl) ?_
  refine lv_iconst (v := 0) hx hb dX6_value_2 (by decide) ?_
  refine lv_bipush (v := 9) hx hb dX6_value_3 (by decide) ?_
  obtain ⟨q_1, hq_1, h⟩ := bi_some h
  refine vp_callSi (va_Run.run (va_runS (As := [.int p1, .int 0, .int 9]) (rest := [.ref (am 0)]) ⟨hx, hb, hml, hown, hts⟩ (k_X6_in l dC dI cI cZ am hI M p1 0 9 q_1 hq_1) (va_cwS 3 hts gX6_value_X6_in rfl rfl rfl (by decide +kernel) ⟨Nat.le_of_ble_eq_true rfl, Nat.le_of_ble_eq_true rfl⟩) (gm_preS hKK hKz hP) rfl rfl hl.1 rfl (lv_room (Nat.le_of_ble_eq_true rfl)) dX6_value_5 ⟨Nat.zero_le _, Nat.zero_le _⟩)) (fun r_2 hr_2 => ?_)
  replace hr_2 := hr_2.symm
  subst hr_2
  refine lv_if_eq (tgt := 15) hx hb dX6_value_8 (by decide) (fun c_3 => ?_) (fun c_3 => ?_)
  · rw [if_pos c_3] at h
    refine lv_iconst (v := 1) hx hb dX6_value_15 (by decide) ?_
    refine va_put (D := (dC, dI)) (ci := 6) (v := .int 1) (ty := .int) (C := RX6) (T := TX6) (N := 29) hx hb hts jX6_value_X6 tyX6 tyX6_ok nmX6 hown hKz hP hD hS 0 mw_0 rfl 0 (by decide) (hts (.fieldLink RX6 80 "LendThreadsModel" "thrown" "I") (by decide +kernel)) (fun _ h9 => h9) rfl (by decide +kernel) rfl rfl (Nat.le_of_ble_eq_true rfl) dX6_value_16 (fun H locs hP _ hS => ?_)
    have hP : va_P (dC, dI) vwCl (mW cI cZ am (up2 M 0 0 1)) H := by show va_P (dC, dI) vwCl (cwl 24 am (encM cI cZ am (up2 M 0 0 1))) H; rw [← em_thrown, ← cwl_set (by decide)]; exact hP
    have hD := cwl_D hI (encM cI cZ am (up2 M 0 0 1))
    generalize up2 M 0 0 1 = M_4 at hP hD h
    replace h := bm_e h
    try dsimp only at h
    refine lv_aload_n hx hb dX6_value_19 rfl (lv_at hl 0 rfl) ?_
    refine va_get (D := (dC, dI)) (ci := 6) (v := .int (M_4 0 0)) (C := RX6) (T := TX6) (N := 29) hx hb hts jX6_value_X6 hown hKz hP 0 mw_0 rfl 0 (by decide) (hts (.fieldLink RX6 80 "LendThreadsModel" "thrown" "I") (by decide +kernel)) (fun _ h9 => h9) rfl dX6_value_20 ?_
    refine lv_if_le (tgt := 30) hx hb dX6_value_23 (by decide) (fun c_5 => ?_) (fun c_5 => ?_)
    · rw [if_pos c_5] at h
      refine lv_aload_n hx hb dX6_value_30 rfl (lv_at hl 0 rfl) ?_
      refine va_get (D := (dC, dI)) (ci := 6) (v := .ref (am 17)) (C := RX6) (T := TX6) (N := 29) hx hb hts jX6_value_X6 hown hKz hP 0 mw_0 rfl 19 (by decide) (hts (.fieldLink RX6 59 "LendThreadsModel" "value" "[I") (by decide +kernel)) (fun _ h9 => h9) rfl dX6_value_31 ?_
      refine lv_iload_n hx hb dX6_value_34 rfl (lv_at hl 1 rfl) ?_
      obtain ⟨g_6, h⟩ := gd_some h
      refine va_iald hx hb hKz hP 17 0 (mw_arr (k := 17) (by decide) (by decide) (by decide)) rfl (inb_in g_6) dX6_value_35 ?_
      replace h := Option.some.inj h
      subst h
      exact W.iret (v := (M_4 17 p1.toNatClampNeg)) hx hb hr (fun t ht hW => ⟨⟨_, _, rfl, ⟨rfl, rfl⟩, (show va_P (dC, dI) vwCl (mW cI cZ am M_4) t.heap by rw [ht]; exact hP)⟩, hS.F ht⟩) hS.2.2 dX6_value_36
    · rw [if_neg c_5] at h
      refine lv_iconst (v := 0) hx hb dX6_value_26 (by decide) ?_
      refine lv_goto (tgt := 36) hx hb dX6_value_27 (by decide) ?_
      replace h := Option.some.inj h
      subst h
      exact W.iret (v := 0) hx hb hr (fun t ht hW => ⟨⟨_, _, rfl, ⟨rfl, rfl⟩, (show va_P (dC, dI) vwCl (mW cI cZ am M_4) t.heap by rw [ht]; exact hP)⟩, hS.F ht⟩) hS.2.2 dX6_value_36
  · rw [if_neg c_3] at h
    refine lv_iconst (v := 0) hx hb dX6_value_11 (by decide) ?_
    refine lv_goto (tgt := 16) hx hb dX6_value_12 (by decide) ?_
    refine va_put (D := (dC, dI)) (ci := 6) (v := .int 0) (ty := .int) (C := RX6) (T := TX6) (N := 29) hx hb hts jX6_value_X6 tyX6 tyX6_ok nmX6 hown hKz hP hD hS 0 mw_0 rfl 0 (by decide) (hts (.fieldLink RX6 80 "LendThreadsModel" "thrown" "I") (by decide +kernel)) (fun _ h9 => h9) rfl (by decide +kernel) rfl rfl (Nat.le_of_ble_eq_true rfl) dX6_value_16 (fun H locs hP _ hS => ?_)
    have hP : va_P (dC, dI) vwCl (mW cI cZ am (up2 M 0 0 0)) H := by show va_P (dC, dI) vwCl (cwl 24 am (encM cI cZ am (up2 M 0 0 0))) H; rw [← em_thrown, ← cwl_set (by decide)]; exact hP
    have hD := cwl_D hI (encM cI cZ am (up2 M 0 0 0))
    generalize up2 M 0 0 0 = M_7 at hP hD h
    replace h := bm_e h
    try dsimp only at h
    refine lv_aload_n hx hb dX6_value_19 rfl (lv_at hl 0 rfl) ?_
    refine va_get (D := (dC, dI)) (ci := 6) (v := .int (M_7 0 0)) (C := RX6) (T := TX6) (N := 29) hx hb hts jX6_value_X6 hown hKz hP 0 mw_0 rfl 0 (by decide) (hts (.fieldLink RX6 80 "LendThreadsModel" "thrown" "I") (by decide +kernel)) (fun _ h9 => h9) rfl dX6_value_20 ?_
    refine lv_if_le (tgt := 30) hx hb dX6_value_23 (by decide) (fun c_8 => ?_) (fun c_8 => ?_)
    · rw [if_pos c_8] at h
      refine lv_aload_n hx hb dX6_value_30 rfl (lv_at hl 0 rfl) ?_
      refine va_get (D := (dC, dI)) (ci := 6) (v := .ref (am 17)) (C := RX6) (T := TX6) (N := 29) hx hb hts jX6_value_X6 hown hKz hP 0 mw_0 rfl 19 (by decide) (hts (.fieldLink RX6 59 "LendThreadsModel" "value" "[I") (by decide +kernel)) (fun _ h9 => h9) rfl dX6_value_31 ?_
      refine lv_iload_n hx hb dX6_value_34 rfl (lv_at hl 1 rfl) ?_
      obtain ⟨g_9, h⟩ := gd_some h
      refine va_iald hx hb hKz hP 17 0 (mw_arr (k := 17) (by decide) (by decide) (by decide)) rfl (inb_in g_9) dX6_value_35 ?_
      replace h := Option.some.inj h
      subst h
      exact W.iret (v := (M_7 17 p1.toNatClampNeg)) hx hb hr (fun t ht hW => ⟨⟨_, _, rfl, ⟨rfl, rfl⟩, (show va_P (dC, dI) vwCl (mW cI cZ am M_7) t.heap by rw [ht]; exact hP)⟩, hS.F ht⟩) hS.2.2 dX6_value_36
    · rw [if_neg c_8] at h
      refine lv_iconst (v := 0) hx hb dX6_value_26 (by decide) ?_
      refine lv_goto (tgt := 36) hx hb dX6_value_27 (by decide) ?_
      replace h := Option.some.inj h
      subst h
      exact W.iret (v := 0) hx hb hr (fun t ht hW => ⟨⟨_, _, rfl, ⟨rfl, rfl⟩, (show va_P (dC, dI) vwCl (mW cI cZ am M_7) t.heap by rw [ht]; exact hP)⟩, hS.F ht⟩) hS.2.2 dX6_value_36
theorem jX6_log_X6 : ∀ w ∈ u_ws RX6 TX6 29, w ∈ wsX6_log := by decide +kernel
def F_X6_log (M : Mem) (p1 : Int32) : Option (Int32 × Mem) :=
  bm (up2 M 0 0 0) fun M_1 => bi (F_X6_in M_1 p1 0 ((M_1 0 27) - 1)) fun q_2 => (if q_2 = 0 then some ((-1), M_1) else gd (inb p1 (lm 23)) <| some ((M_1 23 p1.toNatClampNeg), M_1))
set_option maxHeartbeats 4000000 in
set_option maxRecDepth 100000 in
theorem k_X6_log (l : Launch) (dC : Nat → ClassId) (dI : Nat → Nat → Nat) (cI cZ : ClassId) (am : Nat → Nat) (hI : Inj 24 am) (M : Mem) (p1 : Int32) (q : Int32 × Mem) (h : F_X6_log M p1 = some q) : Met l yX6_log wsX6_log ({ frames := 1, cells := 0, slots := 0, locals := 22 }) (gm dC dI cI cZ am M [.ref (am 0), .int p1]) (va_Qi (fun x M' => x = q.1 ∧ M' = q.2) (fun M' t => va_P (dC, dI) vwCl (mW cI cZ am M') t.heap) (Ac 24 am)) 0 0 (Ac 24 am) := by
  refine Met.ofW (cc := cX6_log) (maxL := 2) (ret := (some .int)) (by decide) rfl ?_
  intro p e s m args below meth c s₁ B hml hv
  obtain ⟨rfl, hP, hKK, hKz⟩ := hv
  have hx := B.exec
  have hb := B.bytes
  have hr := B.returns
  have hts := atoms_spec (ws := wsX6_log) B.pre
  have hown : s.vm.findClass RX6 = some m.cls := findClass_of_methodNamed B.named
  have hlocks := B.notSynchronized
  have hD := cwl_D hI (encM cI cZ am M)
  have hS : va_S (Ac 24 am) s.heap s.heap [] := va_S.rf
  have hl := lv_entry ([.ref (am 0), .int p1]) (n := 2) (Nat.le_of_ble_eq_true rfl)
  rw [lg_entry_eq]
  generalize (lg_sl ([.ref (am 0), .int p1]) ++ List.replicate (2 - (lg_sl ([.ref (am 0), .int p1])).length) Slot.unset).toArray = ls at hl ⊢
  have hl : lv_has ls 2 [(0, .ref (am 0)), (1, .int p1)] := hl
  unfold F_X6_log at h
  refine lv_aload_n hx hb dX6_log_0 rfl (lv_at hl 0 rfl) ?_
  refine lv_iconst (v := 0) hx hb dX6_log_1 (by decide) ?_
  refine va_put (D := (dC, dI)) (ci := 6) (v := .int 0) (ty := .int) (C := RX6) (T := TX6) (N := 29) hx hb hts jX6_log_X6 tyX6 tyX6_ok nmX6 hown hKz hP hD hS 0 mw_0 rfl 0 (by decide) (hts (.fieldLink RX6 80 "LendThreadsModel" "thrown" "I") (by decide +kernel)) (fun _ h9 => h9) rfl (by decide +kernel) rfl rfl (Nat.le_of_ble_eq_true rfl) dX6_log_2 (fun H locs hP _ hS => ?_)
  have hP : va_P (dC, dI) vwCl (mW cI cZ am (up2 M 0 0 0)) H := by show va_P (dC, dI) vwCl (cwl 24 am (encM cI cZ am (up2 M 0 0 0))) H; rw [← em_thrown, ← cwl_set (by decide)]; exact hP
  have hD := cwl_D hI (encM cI cZ am (up2 M 0 0 0))
  generalize up2 M 0 0 0 = M_1 at hP hD h
  replace h := bm_e h
  try dsimp only at h
  refine lv_iload_n hx hb dX6_log_5 rfl (lv_at hl 1 rfl) ?_
  refine lv_iconst (v := 0) hx hb dX6_log_6 (by decide) ?_
  refine lv_aload_n hx hb dX6_log_7 rfl (lv_at hl 0 rfl) ?_
  refine va_get (D := (dC, dI)) (ci := 6) (v := .int (M_1 0 27)) (C := RX6) (T := TX6) (N := 29) hx hb hts jX6_log_X6 hown hKz hP 0 mw_0 rfl 27 (by decide) (hts (.fieldLink RX6 116 "LendThreadsModel" "logged" "I") (by decide +kernel)) (fun _ h9 => h9) rfl dX6_log_8 ?_
  refine lv_iconst (v := 1) hx hb dX6_log_11 (by decide) ?_
  refine lv_isub hx hb dX6_log_12 ?_
  obtain ⟨q_2, hq_2, h⟩ := bi_some h
  refine vp_callSi (va_Run.run (va_runS (As := [.int p1, .int 0, .int ((M_1 0 27) - 1)]) (rest := []) ⟨hx, hb, hml, hown, hts⟩ (k_X6_in l dC dI cI cZ am hI M_1 p1 0 ((M_1 0 27) - 1) q_2 hq_2) (va_cwS 3 hts gX6_log_X6_in rfl rfl rfl (by decide +kernel) ⟨Nat.le_of_ble_eq_true rfl, Nat.le_of_ble_eq_true rfl⟩) (gm_preS hKK hKz hP) rfl rfl hl.1 rfl (lv_room (Nat.le_of_ble_eq_true rfl)) dX6_log_13 ⟨Nat.zero_le _, Nat.zero_le _⟩)) (fun r_3 hr_3 => ?_)
  replace hr_3 := hr_3.symm
  subst hr_3
  refine lv_if_eq (tgt := 28) hx hb dX6_log_16 (by decide) (fun c_4 => ?_) (fun c_4 => ?_)
  · rw [if_pos c_4] at h
    refine lv_iconst (v := (-1)) hx hb dX6_log_28 (by decide) ?_
    replace h := Option.some.inj h
    subst h
    exact W.iret (v := (-1)) hx hb hr (fun t ht hW => ⟨⟨_, _, rfl, ⟨rfl, rfl⟩, (show va_P (dC, dI) vwCl (mW cI cZ am M_1) t.heap by rw [ht]; exact hP)⟩, hS.F ht⟩) hS.2.2 dX6_log_29
  · rw [if_neg c_4] at h
    refine lv_aload_n hx hb dX6_log_19 rfl (lv_at hl 0 rfl) ?_
    refine va_get (D := (dC, dI)) (ci := 6) (v := .ref (am 23)) (C := RX6) (T := TX6) (N := 29) hx hb hts jX6_log_X6 hown hKz hP 0 mw_0 rfl 28 (by decide) (hts (.fieldLink RX6 77 "LendThreadsModel" "log" "[I") (by decide +kernel)) (fun _ h9 => h9) rfl dX6_log_20 ?_
    refine lv_iload_n hx hb dX6_log_23 rfl (lv_at hl 1 rfl) ?_
    obtain ⟨g_5, h⟩ := gd_some h
    refine va_iald hx hb hKz hP 23 0 (mw_arr (k := 23) (by decide) (by decide) (by decide)) rfl (inb_in g_5) dX6_log_24 ?_
    refine lv_goto (tgt := 29) hx hb dX6_log_25 (by decide) ?_
    replace h := Option.some.inj h
    subst h
    exact W.iret (v := (M_1 23 p1.toNatClampNeg)) hx hb hr (fun t ht hW => ⟨⟨_, _, rfl, ⟨rfl, rfl⟩, (show va_P (dC, dI) vwCl (mW cI cZ am M_1) t.heap by rw [ht]; exact hP)⟩, hS.F ht⟩) hS.2.2 dX6_log_29
theorem jX6_mail_X6 : ∀ w ∈ u_ws RX6 TX6 29, w ∈ wsX6_mail := by decide +kernel
def F_X6_mail (M : Mem) (p1 : Int32) (p2 : Int32) : Option (Int32 × Mem) :=
  bm (up2 M 0 0 0) fun M_1 => bi (F_X6_isWork M_1 p1) fun q_2 => (if q_2 = 0 then some ((-2), M_1) else bi (F_X6_isWork M_1 p2) fun q_5 => (if q_5 = 0 then some ((-2), M_1) else gd (inb ((12 * p1) + p2) (lm 18)) <| some ((M_1 18 ((12 * p1) + p2).toNatClampNeg), M_1)))
set_option maxHeartbeats 4000000 in
set_option maxRecDepth 100000 in
theorem k_X6_mail (l : Launch) (dC : Nat → ClassId) (dI : Nat → Nat → Nat) (cI cZ : ClassId) (am : Nat → Nat) (hI : Inj 24 am) (M : Mem) (p1 : Int32) (p2 : Int32) (q : Int32 × Mem) (h : F_X6_mail M p1 p2 = some q) : Met l yX6_mail wsX6_mail ({ frames := 2, cells := 0, slots := 0, locals := 43 }) (gm dC dI cI cZ am M [.ref (am 0), .int p1, .int p2]) (va_Qi (fun x M' => x = q.1 ∧ M' = q.2) (fun M' t => va_P (dC, dI) vwCl (mW cI cZ am M') t.heap) (Ac 24 am)) 0 0 (Ac 24 am) := by
  refine Met.ofW (cc := cX6_mail) (maxL := 3) (ret := (some .int)) (by decide) rfl ?_
  intro p e s m args below meth c s₁ B hml hv
  obtain ⟨rfl, hP, hKK, hKz⟩ := hv
  have hx := B.exec
  have hb := B.bytes
  have hr := B.returns
  have hts := atoms_spec (ws := wsX6_mail) B.pre
  have hown : s.vm.findClass RX6 = some m.cls := findClass_of_methodNamed B.named
  have hlocks := B.notSynchronized
  have hD := cwl_D hI (encM cI cZ am M)
  have hS : va_S (Ac 24 am) s.heap s.heap [] := va_S.rf
  have hl := lv_entry ([.ref (am 0), .int p1, .int p2]) (n := 3) (Nat.le_of_ble_eq_true rfl)
  rw [lg_entry_eq]
  generalize (lg_sl ([.ref (am 0), .int p1, .int p2]) ++ List.replicate (3 - (lg_sl ([.ref (am 0), .int p1, .int p2])).length) Slot.unset).toArray = ls at hl ⊢
  have hl : lv_has ls 3 [(0, .ref (am 0)), (1, .int p1), (2, .int p2)] := hl
  unfold F_X6_mail at h
  refine lv_aload_n hx hb dX6_mail_0 rfl (lv_at hl 0 rfl) ?_
  refine lv_iconst (v := 0) hx hb dX6_mail_1 (by decide) ?_
  refine va_put (D := (dC, dI)) (ci := 6) (v := .int 0) (ty := .int) (C := RX6) (T := TX6) (N := 29) hx hb hts jX6_mail_X6 tyX6 tyX6_ok nmX6 hown hKz hP hD hS 0 mw_0 rfl 0 (by decide) (hts (.fieldLink RX6 80 "LendThreadsModel" "thrown" "I") (by decide +kernel)) (fun _ h9 => h9) rfl (by decide +kernel) rfl rfl (Nat.le_of_ble_eq_true rfl) dX6_mail_2 (fun H locs hP _ hS => ?_)
  have hP : va_P (dC, dI) vwCl (mW cI cZ am (up2 M 0 0 0)) H := by show va_P (dC, dI) vwCl (cwl 24 am (encM cI cZ am (up2 M 0 0 0))) H; rw [← em_thrown, ← cwl_set (by decide)]; exact hP
  have hD := cwl_D hI (encM cI cZ am (up2 M 0 0 0))
  generalize up2 M 0 0 0 = M_1 at hP hD h
  replace h := bm_e h
  try dsimp only at h
  refine lv_aload_n hx hb dX6_mail_5 rfl (lv_at hl 0 rfl) ?_
  refine lv_iload_n hx hb dX6_mail_6 rfl (lv_at hl 1 rfl) ?_
  obtain ⟨q_2, hq_2, h⟩ := bi_some h
  refine vp_callSi (va_Run.run (va_runV (As := [.int p1]) (rest := []) ⟨hx, hb, hml, hown, hts⟩ (k_X6_isWork l dC dI cI cZ am hI M_1 p1 q_2 hq_2) (cwV 1 hts gX6_mail_X6_isWork rfl rfl rfl (by decide +kernel) ⟨Nat.le_of_ble_eq_true rfl, Nat.le_of_ble_eq_true rfl⟩) (gm_preV hKK hKz hP (va_recv hKz hP (ci := 6) (q0 := 0) rfl mw_0)) rfl rfl hl.1 rfl (lv_room (Nat.le_of_ble_eq_true rfl)) dX6_mail_7 ⟨Nat.zero_le _, Nat.zero_le _⟩)) (fun r_3 hr_3 => ?_)
  replace hr_3 := hr_3.symm
  subst hr_3
  refine lv_if_eq (tgt := 35) hx hb dX6_mail_10 (by decide) (fun c_4 => ?_) (fun c_4 => ?_)
  · rw [if_pos c_4] at h
    refine lv_bipush (v := (-2)) hx hb dX6_mail_35 (by decide) ?_
    replace h := Option.some.inj h
    subst h
    exact W.iret (v := (-2)) hx hb hr (fun t ht hW => ⟨⟨_, _, rfl, ⟨rfl, rfl⟩, (show va_P (dC, dI) vwCl (mW cI cZ am M_1) t.heap by rw [ht]; exact hP)⟩, hS.F ht⟩) hS.2.2 dX6_mail_37
  · rw [if_neg c_4] at h
    refine lv_aload_n hx hb dX6_mail_13 rfl (lv_at hl 0 rfl) ?_
    refine lv_iload_n hx hb dX6_mail_14 rfl (lv_at hl 2 rfl) ?_
    obtain ⟨q_5, hq_5, h⟩ := bi_some h
    refine vp_callSi (va_Run.run (va_runV (As := [.int p2]) (rest := []) ⟨hx, hb, hml, hown, hts⟩ (k_X6_isWork l dC dI cI cZ am hI M_1 p2 q_5 hq_5) (cwV 1 hts gX6_mail_X6_isWork rfl rfl rfl (by decide +kernel) ⟨Nat.le_of_ble_eq_true rfl, Nat.le_of_ble_eq_true rfl⟩) (gm_preV hKK hKz hP (va_recv hKz hP (ci := 6) (q0 := 0) rfl mw_0)) rfl rfl hl.1 rfl (lv_room (Nat.le_of_ble_eq_true rfl)) dX6_mail_15 ⟨Nat.zero_le _, Nat.zero_le _⟩)) (fun r_6 hr_6 => ?_)
    replace hr_6 := hr_6.symm
    subst hr_6
    refine lv_if_eq (tgt := 35) hx hb dX6_mail_18 (by decide) (fun c_7 => ?_) (fun c_7 => ?_)
    · rw [if_pos c_7] at h
      refine lv_bipush (v := (-2)) hx hb dX6_mail_35 (by decide) ?_
      replace h := Option.some.inj h
      subst h
      exact W.iret (v := (-2)) hx hb hr (fun t ht hW => ⟨⟨_, _, rfl, ⟨rfl, rfl⟩, (show va_P (dC, dI) vwCl (mW cI cZ am M_1) t.heap by rw [ht]; exact hP)⟩, hS.F ht⟩) hS.2.2 dX6_mail_37
    · rw [if_neg c_7] at h
      refine lv_aload_n hx hb dX6_mail_21 rfl (lv_at hl 0 rfl) ?_
      refine va_get (D := (dC, dI)) (ci := 6) (v := .ref (am 18)) (C := RX6) (T := TX6) (N := 29) hx hb hts jX6_mail_X6 hown hKz hP 0 mw_0 rfl 20 (by decide) (hts (.fieldLink RX6 62 "LendThreadsModel" "there" "[I") (by decide +kernel)) (fun _ h9 => h9) rfl dX6_mail_22 ?_
      refine lv_bipush (v := 12) hx hb dX6_mail_25 (by decide) ?_
      refine lv_iload_n hx hb dX6_mail_27 rfl (lv_at hl 1 rfl) ?_
      refine lv_imul hx hb dX6_mail_28 ?_
      refine lv_iload_n hx hb dX6_mail_29 rfl (lv_at hl 2 rfl) ?_
      refine lv_iadd hx hb dX6_mail_30 ?_
      obtain ⟨g_8, h⟩ := gd_some h
      refine va_iald hx hb hKz hP 18 0 (mw_arr (k := 18) (by decide) (by decide) (by decide)) rfl (inb_in g_8) dX6_mail_31 ?_
      refine lv_goto (tgt := 37) hx hb dX6_mail_32 (by decide) ?_
      replace h := Option.some.inj h
      subst h
      exact W.iret (v := (M_1 18 ((12 * p1) + p2).toNatClampNeg)) hx hb hr (fun t ht hW => ⟨⟨_, _, rfl, ⟨rfl, rfl⟩, (show va_P (dC, dI) vwCl (mW cI cZ am M_1) t.heap by rw [ht]; exact hP)⟩, hS.F ht⟩) hS.2.2 dX6_mail_37
