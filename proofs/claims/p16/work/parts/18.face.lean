theorem jX5_work_X4 : ∀ w ∈ u_ws RX4 TX4 12, w ∈ wsX5_work := by decide +kernel
theorem jX5_work_X5 : ∀ w ∈ u_ws RX5 TX5 5, w ∈ wsX5_work := by decide +kernel
def F_X5_work (M : Mem) (p1 : Int32) (p2 : Int32) : Option (Int32 × Mem) :=
  (if p1 < 1 then some ((-2), M) else (if 10 < p1 then some ((-2), M) else (if p2 < (-1) then some ((-2), M) else (if p2 < p1 then (if (M 0 1) < 12 then gd (inb (M 0 1) 12) <| bm (up2 M (16 + 7 * (M 0 1).toNatClampNeg) 3 p1) fun M_7 => bm (up2 M_7 (16 + 7 * (M 0 1).toNatClampNeg) 4 p2) fun M_8 => bm (up2 M_8 0 1 ((M_8 0 1) + 1)) fun M_9 => some ((M_9 (16 + 7 * (M 0 1).toNatClampNeg) 0), M_9) else some ((-4), M)) else some ((-2), M)))))
set_option maxHeartbeats 4000000 in
set_option maxRecDepth 100000 in
theorem k_X5_work (l : Launch) (dC : Nat → ClassId) (dI : Nat → Nat → Nat) (cI c9 : ClassId) (ad : Nat → Nat) (hI : Inj 100 ad) (M : Mem) (p1 : Int32) (p2 : Int32) (q : Int32 × Mem) (h : F_X5_work M p1 p2 = some q) : Met l yX5_work wsX5_work ({ frames := 0, cells := 0, slots := 0, locals := 0 }) (gP dC dI cI c9 ad M [.ref (ad 0), .int p1, .int p2]) (va_Qi (fun x M' => x = q.1 ∧ M' = q.2) (fun M' t => va_P (dC, dI) vwCl (cW cI c9 ad M') t.heap) (Ac 100 ad)) 0 0 (Ac 100 ad) := by
  refine Met.ofW (cc := cX5_work) (maxL := 4) (ret := (some .int)) (by decide) rfl ?_
  intro p e s m args below meth c s₁ B hml hv
  obtain ⟨rfl, hP, hKK, hKw⟩ := hv
  have hx := B.exec
  have hb := B.bytes
  have hr := B.returns
  have hts := atoms_spec (ws := wsX5_work) B.pre
  have hown : s.vm.findClass RX5 = some m.cls := findClass_of_methodNamed B.named
  have hlocks := B.notSynchronized
  have hD := cwl_D hI (enc cI c9 ad M)
  have hS : va_S (Ac 100 ad) s.heap s.heap [] := va_S.rf
  have hl := lv_entry ([.ref (ad 0), .int p1, .int p2]) (n := 4) (Nat.le_of_ble_eq_true rfl)
  rw [lg_entry_eq]
  generalize (lg_sl ([.ref (ad 0), .int p1, .int p2]) ++ List.replicate (4 - (lg_sl ([.ref (ad 0), .int p1, .int p2])).length) Slot.unset).toArray = ls at hl ⊢
  have hl : lv_has ls 4 [(0, .ref (ad 0)), (1, .int p1), (2, .int p2)] := hl
  unfold F_X5_work at h
  refine lv_iload_n hx hb dX5_work_0 rfl (lv_at hl 1 rfl) ?_
  refine lv_iconst (v := 1) hx hb dX5_work_1 (by decide) ?_
  refine lv_icmp_lt (tgt := 21) hx hb dX5_work_2 (by decide) (fun c_1 => ?_) (fun c_1 => ?_)
  · rw [if_pos c_1] at h
    refine lv_bipush (v := (-2)) hx hb dX5_work_21 (by decide) ?_
    replace h := Option.some.inj h
    subst h
    exact W.iret (v := (-2)) hx hb hr (fun t ht hW => ⟨⟨_, _, rfl, ⟨rfl, rfl⟩, (show va_P (dC, dI) vwCl (cW cI c9 ad M) t.heap by rw [ht]; exact hP)⟩, hS.F ht⟩) hS.2.2 dX5_work_23
  · rw [if_neg c_1] at h
    refine lv_iload_n hx hb dX5_work_5 rfl (lv_at hl 1 rfl) ?_
    refine lv_bipush (v := 10) hx hb dX5_work_6 (by decide) ?_
    refine lv_icmp_gt (tgt := 21) hx hb dX5_work_8 (by decide) (fun c_2 => ?_) (fun c_2 => ?_)
    · rw [if_pos c_2] at h
      refine lv_bipush (v := (-2)) hx hb dX5_work_21 (by decide) ?_
      replace h := Option.some.inj h
      subst h
      exact W.iret (v := (-2)) hx hb hr (fun t ht hW => ⟨⟨_, _, rfl, ⟨rfl, rfl⟩, (show va_P (dC, dI) vwCl (cW cI c9 ad M) t.heap by rw [ht]; exact hP)⟩, hS.F ht⟩) hS.2.2 dX5_work_23
    · rw [if_neg c_2] at h
      refine lv_iload_n hx hb dX5_work_11 rfl (lv_at hl 2 rfl) ?_
      refine lv_iconst (v := (-1)) hx hb dX5_work_12 (by decide) ?_
      refine lv_icmp_lt (tgt := 21) hx hb dX5_work_13 (by decide) (fun c_3 => ?_) (fun c_3 => ?_)
      · rw [if_pos c_3] at h
        refine lv_bipush (v := (-2)) hx hb dX5_work_21 (by decide) ?_
        replace h := Option.some.inj h
        subst h
        exact W.iret (v := (-2)) hx hb hr (fun t ht hW => ⟨⟨_, _, rfl, ⟨rfl, rfl⟩, (show va_P (dC, dI) vwCl (cW cI c9 ad M) t.heap by rw [ht]; exact hP)⟩, hS.F ht⟩) hS.2.2 dX5_work_23
      · rw [if_neg c_3] at h
        refine lv_iload_n hx hb dX5_work_16 rfl (lv_at hl 2 rfl) ?_
        refine lv_iload_n hx hb dX5_work_17 rfl (lv_at hl 1 rfl) ?_
        refine lv_icmp_lt (tgt := 24) hx hb dX5_work_18 (by decide) (fun c_4 => ?_) (fun c_4 => ?_)
        · rw [if_pos c_4] at h
          refine lv_aload_n hx hb dX5_work_24 rfl (lv_at hl 0 rfl) ?_
          refine va_get (D := (dC, dI)) (ci := 5) (v := .int (M 0 1)) (C := RX5) (T := TX5) (N := 5) hx hb hts jX5_work_X5 hown hKw hP 0 cw_lt rfl 1 (by decide) (hts (.fieldLink RX5 39 "LendThreads" "workCount" "I") (by decide +kernel)) (fun _ h9 => h9) rfl dX5_work_25 ?_
          refine lv_bipush (v := 12) hx hb dX5_work_28 (by decide) ?_
          refine lv_icmp_lt (tgt := 36) hx hb dX5_work_30 (by decide) (fun c_5 => ?_) (fun c_5 => ?_)
          · rw [if_pos c_5] at h
            refine lv_aload_n hx hb dX5_work_36 rfl (lv_at hl 0 rfl) ?_
            refine va_get (D := (dC, dI)) (ci := 5) (v := .ref (ad 1)) (C := RX5) (T := TX5) (N := 5) hx hb hts jX5_work_X5 hown hKw hP 0 cw_lt rfl 0 (by decide) (hts (.fieldLink RX5 11 "LendThreads" "works" "[LLendThreads$Work;") (by decide +kernel)) (fun _ h9 => h9) rfl dX5_work_37 ?_
            refine lv_aload_n hx hb dX5_work_40 rfl (lv_at hl 0 rfl) ?_
            refine va_get (D := (dC, dI)) (ci := 5) (v := .int (M 0 1)) (C := RX5) (T := TX5) (N := 5) hx hb hts jX5_work_X5 hown hKw hP 0 cw_lt rfl 1 (by decide) (hts (.fieldLink RX5 39 "LendThreads" "workCount" "I") (by decide +kernel)) (fun _ h9 => h9) rfl dX5_work_41 ?_
            obtain ⟨g_6, h⟩ := gd_some h
            refine va_aldq hx hb hKw hP 1 1 cw_ws rfl (inb_in g_6) dX5_work_44 ?_
            refine W.eq (g2 := F0 m 45 ls [.ref (ad (16 + 7 * (M 0 1).toNatClampNeg))]) rfl ?_
            refine lv_astore_n (lv' := [(3, .ref (ad (16 + 7 * (M 0 1).toNatClampNeg))), (0, .ref (ad 0)), (1, .int p1), (2, .int p2)]) hx hb dX5_work_45 rfl hl (by decide) rfl (fun ls hl => ?_)
            refine lv_aload_n hx hb dX5_work_46 rfl (lv_at hl 0 rfl) ?_
            refine lv_iload_n hx hb dX5_work_47 rfl (lv_at hl 2 rfl) ?_
            refine va_putN (D := (dC, dI)) (ci := 4) (v := .int p1) (ty := .int) (C := RX4) (T := TX4) (N := 12) hx hb hts jX5_work_X4 tyX4 tyX4_ok nmX4 hown hKw hP hD hS (16 + 7 * (M 0 1).toNatClampNeg) (cw_work (wok.lt (wok.of (bn_lt (inb_in g_6)))) (wok.k (wok.of (bn_lt (inb_in g_6))))) rfl 3 (by decide) (va_Nw.use rfl (hKK.2.2 (.fieldLinkNest RX5 43 RX4 "steps" "I" RX5) (by decide +kernel))) (fun _ h9 => h9) rfl (by decide +kernel) rfl rfl (Nat.le_of_ble_eq_true rfl) dX5_work_48 (fun H locs hP _ hS => ?_)
            have hP : va_P (dC, dI) vwCl (cW cI c9 ad (up2 M (16 + 7 * (M 0 1).toNatClampNeg) 3 p1)) H := by show va_P (dC, dI) vwCl (cwl 100 ad (enc cI c9 ad (up2 M (16 + 7 * (M 0 1).toNatClampNeg) 3 p1))) H; rw [← en_w3 (wok.k (wok.of (bn_lt (inb_in g_6)))), ← cwl_set (wok.lt (wok.of (bn_lt (inb_in g_6))))]; exact hP
            have hD := cwl_D hI (enc cI c9 ad (up2 M (16 + 7 * (M 0 1).toNatClampNeg) 3 p1))
            generalize up2 M (16 + 7 * (M 0 1).toNatClampNeg) 3 p1 = M_7 at hP hD h
            replace h := bm_e h
            try dsimp only at h
            refine lv_aload_n hx hb dX5_work_51 rfl (lv_at hl 0 rfl) ?_
            refine lv_iload_n hx hb dX5_work_52 rfl (lv_at hl 3 rfl) ?_
            refine va_putN (D := (dC, dI)) (ci := 4) (v := .int p2) (ty := .int) (C := RX4) (T := TX4) (N := 12) hx hb hts jX5_work_X4 tyX4 tyX4_ok nmX4 hown hKw hP hD hS (16 + 7 * (M 0 1).toNatClampNeg) (cw_work (wok.lt (wok.of (bn_lt (inb_in g_6)))) (wok.k (wok.of (bn_lt (inb_in g_6))))) rfl 4 (by decide) (va_Nw.use rfl (hKK.2.2 (.fieldLinkNest RX5 46 RX4 "failsAt" "I" RX5) (by decide +kernel))) (fun _ h9 => h9) rfl (by decide +kernel) rfl rfl (Nat.le_of_ble_eq_true rfl) dX5_work_53 (fun H locs hP _ hS => ?_)
            have hP : va_P (dC, dI) vwCl (cW cI c9 ad (up2 M_7 (16 + 7 * (M 0 1).toNatClampNeg) 4 p2)) H := by show va_P (dC, dI) vwCl (cwl 100 ad (enc cI c9 ad (up2 M_7 (16 + 7 * (M 0 1).toNatClampNeg) 4 p2))) H; rw [← en_w4 (wok.k (wok.of (bn_lt (inb_in g_6)))), ← cwl_set (wok.lt (wok.of (bn_lt (inb_in g_6))))]; exact hP
            have hD := cwl_D hI (enc cI c9 ad (up2 M_7 (16 + 7 * (M 0 1).toNatClampNeg) 4 p2))
            generalize up2 M_7 (16 + 7 * (M 0 1).toNatClampNeg) 4 p2 = M_8 at hP hD h
            replace h := bm_e h
            try dsimp only at h
            refine lv_aload_n hx hb dX5_work_56 rfl (lv_at hl 1 rfl) ?_
            refine lv_dup hx hb dX5_work_57 rfl ?_
            refine va_get (D := (dC, dI)) (ci := 5) (v := .int (M_8 0 1)) (C := RX5) (T := TX5) (N := 5) hx hb hts jX5_work_X5 hown hKw hP 0 cw_lt rfl 1 (by decide) (hts (.fieldLink RX5 39 "LendThreads" "workCount" "I") (by decide +kernel)) (fun _ h9 => h9) rfl dX5_work_58 ?_
            refine lv_iconst (v := 1) hx hb dX5_work_61 (by decide) ?_
            refine lv_iadd hx hb dX5_work_62 ?_
            refine va_put (D := (dC, dI)) (ci := 5) (v := .int ((M_8 0 1) + 1)) (ty := .int) (C := RX5) (T := TX5) (N := 5) hx hb hts jX5_work_X5 tyX5 tyX5_ok nmX5 hown hKw hP hD hS 0 cw_lt rfl 1 (by decide) (hts (.fieldLink RX5 39 "LendThreads" "workCount" "I") (by decide +kernel)) (fun _ h9 => h9) rfl (by decide +kernel) rfl rfl (Nat.le_of_ble_eq_true rfl) dX5_work_63 (fun H locs hP _ hS => ?_)
            have hP : va_P (dC, dI) vwCl (cW cI c9 ad (up2 M_8 0 1 ((M_8 0 1) + 1))) H := by show va_P (dC, dI) vwCl (cwl 100 ad (enc cI c9 ad (up2 M_8 0 1 ((M_8 0 1) + 1)))) H; rw [← en_p0, ← cwl_set (by decide)]; exact hP
            have hD := cwl_D hI (enc cI c9 ad (up2 M_8 0 1 ((M_8 0 1) + 1)))
            generalize up2 M_8 0 1 ((M_8 0 1) + 1) = M_9 at hP hD h
            replace h := bm_e h
            try dsimp only at h
            refine lv_aload_n hx hb dX5_work_66 rfl (lv_at hl 0 rfl) ?_
            refine va_getN (D := (dC, dI)) (ci := 4) (v := .int (M_9 (16 + 7 * (M 0 1).toNatClampNeg) 0)) (C := RX4) (T := TX4) (N := 12) hx hb hts jX5_work_X4 hown hKw hP (16 + 7 * (M 0 1).toNatClampNeg) (cw_work (wok.lt (wok.of (bn_lt (inb_in g_6)))) (wok.k (wok.of (bn_lt (inb_in g_6))))) rfl 0 (by decide) (va_Nw.use rfl (hKK.2.2 (.fieldLinkNest RX5 49 RX4 "number" "I" RX5) (by decide +kernel))) (fun _ h9 => h9) rfl dX5_work_67 ?_
            replace h := Option.some.inj h
            subst h
            exact W.iret (v := (M_9 (16 + 7 * (M 0 1).toNatClampNeg) 0)) hx hb hr (fun t ht hW => ⟨⟨_, _, rfl, ⟨rfl, rfl⟩, (show va_P (dC, dI) vwCl (cW cI c9 ad M_9) t.heap by rw [ht]; exact hP)⟩, hS.F ht⟩) hS.2.2 dX5_work_70
          · rw [if_neg c_5] at h
            refine lv_bipush (v := (-4)) hx hb dX5_work_33 (by decide) ?_
            replace h := Option.some.inj h
            subst h
            exact W.iret (v := (-4)) hx hb hr (fun t ht hW => ⟨⟨_, _, rfl, ⟨rfl, rfl⟩, (show va_P (dC, dI) vwCl (cW cI c9 ad M) t.heap by rw [ht]; exact hP)⟩, hS.F ht⟩) hS.2.2 dX5_work_35
        · rw [if_neg c_4] at h
          refine lv_bipush (v := (-2)) hx hb dX5_work_21 (by decide) ?_
          replace h := Option.some.inj h
          subst h
          exact W.iret (v := (-2)) hx hb hr (fun t ht hW => ⟨⟨_, _, rfl, ⟨rfl, rfl⟩, (show va_P (dC, dI) vwCl (cW cI c9 ad M) t.heap by rw [ht]; exact hP)⟩, hS.F ht⟩) hS.2.2 dX5_work_23
theorem jX5_wants_X4 : ∀ w ∈ u_ws RX4 TX4 12, w ∈ wsX5_wants := by decide +kernel
def F_X5_wants (M : Mem) (p1 : Int32) (p2 : Int32) (p3 : Int32) (p4 : Int32) : Option (Int32 × Mem) :=
  bi (F_X5_find M p1) fun q_1 => match q_1 with | none => some ((-1), M) | some w_3 => bi (F_X4_isStep M w_3 p2) fun q_4 => (if q_4 = 0 then some ((-1), M) else (if p3 = 0 then bi (F_X5_isCopy M p4) fun q_8 => (if q_8 = 0 then some ((-2), M) else (if (M w_3 10) = 0 then (if p3 = 0 then bi (F_X2_add M (w_3 + 1) p2 p4) fun q_13 => some (q_13.1, q_13.2) else bi (F_X2_add M (w_3 + 1) p2 (10 + p4)) fun q_16 => some (q_16.1, q_16.2)) else some ((-3), M))) else bi (F_X5_isOther M p1 p4) fun q_19 => (if q_19 = 0 then some ((-2), M) else (if (M w_3 10) = 0 then (if p3 = 0 then bi (F_X2_add M (w_3 + 1) p2 p4) fun q_24 => some (q_24.1, q_24.2) else bi (F_X2_add M (w_3 + 1) p2 (10 + p4)) fun q_27 => some (q_27.1, q_27.2)) else some ((-3), M)))))
set_option maxHeartbeats 4000000 in
set_option maxRecDepth 100000 in
theorem k_X5_wants (l : Launch) (dC : Nat → ClassId) (dI : Nat → Nat → Nat) (cI c9 : ClassId) (ad : Nat → Nat) (hI : Inj 100 ad) (M : Mem) (p1 : Int32) (p2 : Int32) (p3 : Int32) (p4 : Int32) (q : Int32 × Mem) (h : F_X5_wants M p1 p2 p3 p4 = some q) : Met l yX5_wants wsX5_wants ({ frames := 2, cells := 0, slots := 0, locals := 43 }) (gP dC dI cI c9 ad M [.ref (ad 0), .int p1, .int p2, .int p3, .int p4]) (va_Qi (fun x M' => x = q.1 ∧ M' = q.2) (fun M' t => va_P (dC, dI) vwCl (cW cI c9 ad M') t.heap) (Ac 100 ad)) 0 0 (Ac 100 ad) := by
  refine Met.ofW (cc := cX5_wants) (maxL := 6) (ret := (some .int)) (by decide) rfl ?_
  intro p e s m args below meth c s₁ B hml hv
  obtain ⟨rfl, hP, hKK, hKw⟩ := hv
  have hx := B.exec
  have hb := B.bytes
  have hr := B.returns
  have hts := atoms_spec (ws := wsX5_wants) B.pre
  have hown : s.vm.findClass RX5 = some m.cls := findClass_of_methodNamed B.named
  have hlocks := B.notSynchronized
  have hD := cwl_D hI (enc cI c9 ad M)
  have hS : va_S (Ac 100 ad) s.heap s.heap [] := va_S.rf
  have hl := lv_entry ([.ref (ad 0), .int p1, .int p2, .int p3, .int p4]) (n := 6) (Nat.le_of_ble_eq_true rfl)
  rw [lg_entry_eq]
  generalize (lg_sl ([.ref (ad 0), .int p1, .int p2, .int p3, .int p4]) ++ List.replicate (6 - (lg_sl ([.ref (ad 0), .int p1, .int p2, .int p3, .int p4])).length) Slot.unset).toArray = ls at hl ⊢
  have hl : lv_has ls 6 [(0, .ref (ad 0)), (1, .int p1), (2, .int p2), (3, .int p3), (4, .int p4)] := hl
  unfold F_X5_wants at h
  refine lv_aload_n hx hb dX5_wants_0 rfl (lv_at hl 0 rfl) ?_
  refine lv_iload_n hx hb dX5_wants_1 rfl (lv_at hl 1 rfl) ?_
  obtain ⟨q_1, hq_1, h⟩ := bi_some h
  refine va_csq (va_Run.run (va_runV (As := [.int p1]) (rest := []) ⟨hx, hb, hml, hown, hts⟩ (k_X5_find l dC dI cI c9 ad hI M p1 q_1 hq_1) (cwV 1 hts gX5_wants_X5_find rfl rfl rfl (by decide +kernel) ⟨Nat.le_of_ble_eq_true rfl, Nat.le_of_ble_eq_true rfl⟩) (gP_preV hKK hKw hP (va_recv hKw hP (ci := 5) (q0 := 0) rfl cw_lt)) rfl rfl hl.1 rfl (lv_room (Nat.le_of_ble_eq_true rfl)) dX5_wants_2 ⟨Nat.zero_le _, Nat.zero_le _⟩)) (fun r_2 hr_2 => ?_)
  subst hr_2
  cases q_1 with
  | none =>
    dsimp only at h
    refine W.eq (g2 := F0 m 5 ls [.null]) rfl ?_
    refine lv_astoreN (lv' := [(5, .null), (0, .ref (ad 0)), (1, .int p1), (2, .int p2), (3, .int p3), (4, .int p4)]) hx hb dX5_wants_5 hl (by decide) rfl (fun ls hl => ?_)
    refine lv_aloadN hx hb dX5_wants_7 (lv_at hl 0 rfl) ?_
    refine lv_ifnullN (tgt := 21) hx hb dX5_wants_9 (by decide) ?_
    refine lv_iconst (v := (-1)) hx hb dX5_wants_21 (by decide) ?_
    replace h := Option.some.inj h
    subst h
    exact W.iret (v := (-1)) hx hb hr (fun t ht hW => ⟨⟨_, _, rfl, ⟨rfl, rfl⟩, (show va_P (dC, dI) vwCl (cW cI c9 ad M) t.heap by rw [ht]; exact hP)⟩, hS.F ht⟩) hS.2.2 dX5_wants_22
  | some w_3 =>
    dsimp only at h
    have hw_3 : wok w_3 := find_wok hq_1
    refine W.eq (g2 := F0 m 5 ls [.ref (ad w_3)]) rfl ?_
    refine lv_astore (lv' := [(5, .ref (ad w_3)), (0, .ref (ad 0)), (1, .int p1), (2, .int p2), (3, .int p3), (4, .int p4)]) hx hb dX5_wants_5 hl (by decide) rfl (fun ls hl => ?_)
    refine lv_aload hx hb dX5_wants_7 (lv_at hl 0 rfl) ?_
    refine lv_ifnull hx hb dX5_wants_9 ?_
    refine lv_aload hx hb dX5_wants_12 (lv_at hl 0 rfl) ?_
    refine lv_iload_n hx hb dX5_wants_14 rfl (lv_at hl 3 rfl) ?_
    obtain ⟨q_4, hq_4, h⟩ := bi_some h
    refine vp_callSi (va_Run.run (va_runV (As := [.int p2]) (rest := []) ⟨hx, hb, hml, hown, hts⟩ (k_X4_isStep l dC dI cI c9 ad hI M w_3 hw_3 p2 q_4 hq_4) (cwV 1 hts gX5_wants_X4_isStep rfl rfl rfl (by decide +kernel) ⟨Nat.le_of_ble_eq_true rfl, Nat.le_of_ble_eq_true rfl⟩) (gP_preV hKK hKw hP (va_recv hKw hP (ci := 4) (q0 := w_3) rfl (cw_work (wok.lt hw_3) (wok.k hw_3)))) rfl rfl hl.1 rfl (lv_room (Nat.le_of_ble_eq_true rfl)) dX5_wants_15 ⟨Nat.zero_le _, Nat.zero_le _⟩)) (fun r_5 hr_5 => ?_)
    replace hr_5 := hr_5.symm
    subst hr_5
    refine lv_if_ne (tgt := 23) hx hb dX5_wants_18 (by decide) (fun c_6 => ?_) (fun c_6 => ?_)
    · rw [if_neg c_6] at h
      refine lv_iload_n hx hb dX5_wants_23 rfl (lv_at hl 4 rfl) ?_
      refine lv_if_eq (tgt := 40) hx hb dX5_wants_24 (by decide) (fun c_7 => ?_) (fun c_7 => ?_)
      · rw [if_pos c_7] at h
        refine lv_iload hx hb dX5_wants_40 (lv_at hl 5 rfl) ?_
        obtain ⟨q_8, hq_8, h⟩ := bi_some h
        refine vp_callSi (va_Run.run (va_runS (As := [.int p4]) (rest := []) ⟨hx, hb, hml, hown, hts⟩ (k_X5_isCopy l dC dI cI c9 ad hI M p4 q_8 hq_8) (va_cwS 1 hts gX5_wants_X5_isCopy rfl rfl rfl (by decide +kernel) ⟨Nat.le_of_ble_eq_true rfl, Nat.le_of_ble_eq_true rfl⟩) (gP_preS hKK hKw hP) rfl rfl hl.1 rfl (lv_room (Nat.le_of_ble_eq_true rfl)) dX5_wants_42 ⟨Nat.zero_le _, Nat.zero_le _⟩)) (fun r_9 hr_9 => ?_)
        replace hr_9 := hr_9.symm
        subst hr_9
        refine lv_if_ne (tgt := 51) hx hb dX5_wants_45 (by decide) (fun c_10 => ?_) (fun c_10 => ?_)
        · rw [if_neg c_10] at h
          refine lv_aload hx hb dX5_wants_51 (lv_at hl 0 rfl) ?_
          refine va_getN (D := (dC, dI)) (ci := 4) (v := .int (M w_3 10)) (C := RX4) (T := TX4) (N := 12) hx hb hts jX5_wants_X4 hown hKw hP w_3 (cw_work (wok.lt hw_3) (wok.k hw_3)) rfl 10 (by decide) (va_Nw.use rfl (hKK.2.2 (.fieldLinkNest RX5 67 RX4 "hadTurn" "Z" RX5) (by decide +kernel))) (fun _ h9 => h9) rfl dX5_wants_53 ?_
          refine lv_if_eq (tgt := 62) hx hb dX5_wants_56 (by decide) (fun c_11 => ?_) (fun c_11 => ?_)
          · rw [if_pos c_11] at h
            refine lv_aload hx hb dX5_wants_62 (lv_at hl 0 rfl) ?_
            refine va_getN (D := (dC, dI)) (ci := 4) (v := .ref (ad (w_3 + 1))) (C := RX4) (T := TX4) (N := 12) hx hb hts jX5_wants_X4 hown hKw hP w_3 (cw_work (wok.lt hw_3) (wok.k hw_3)) rfl 1 (by decide) (va_Nw.use rfl (hKK.2.2 (.fieldLinkNest RX5 71 RX4 "wanted" "LLendThreads$Rows;" RX5) (by decide +kernel))) (fun _ h9 => h9) rfl dX5_wants_64 ?_
            refine lv_iload_n hx hb dX5_wants_67 rfl (lv_at hl 3 rfl) ?_
            refine lv_iload_n hx hb dX5_wants_68 rfl (lv_at hl 4 rfl) ?_
            refine lv_if_eq (tgt := 80) hx hb dX5_wants_69 (by decide) (fun c_12 => ?_) (fun c_12 => ?_)
            · rw [if_pos c_12] at h
              refine lv_iload hx hb dX5_wants_80 (lv_at hl 5 rfl) ?_
              obtain ⟨q_13, hq_13, h⟩ := bi_some h
              refine va_calli (va_runV (As := [.int p2, .int p4]) (rest := []) ⟨hx, hb, hml, hown, hts⟩ (k_X2_add l dC dI cI c9 ad hI M (w_3 + 1) (wok.r1 hw_3) p2 p4 q_13 hq_13) (cwV 2 hts gX5_wants_X2_add rfl rfl rfl (by decide +kernel) ⟨Nat.le_of_ble_eq_true rfl, Nat.le_of_ble_eq_true rfl⟩) (gP_preV hKK hKw hP (va_recv hKw hP (ci := 2) (q0 := (w_3 + 1)) rfl (cw_rows (wok.r1 hw_3).lt (wok.r1 hw_3).k0))) rfl rfl hl.1 rfl (lv_room (Nat.le_of_ble_eq_true rfl)) dX5_wants_82 ⟨Nat.zero_le _, Nat.zero_le _⟩) hS (fun q _ h => h) (fun q h => h) (fun r_14 M_15 t H locs ht hvm hw hP hz1 hk1 hS => ?_)
              obtain ⟨h1, h2⟩ := hw
              subst h1 h2
              rw [ht] at hP
              have hD := cwl_D hI (enc cI c9 ad q_13.2)
              replace h := Option.some.inj h
              subst h
              exact W.iret (v := q_13.1) hx hb hr (fun t ht hW => ⟨⟨_, _, rfl, ⟨rfl, rfl⟩, (show va_P (dC, dI) vwCl (cW cI c9 ad q_13.2) t.heap by rw [ht]; exact hP)⟩, hS.F ht⟩) hS.2.2 dX5_wants_85
            · rw [if_neg c_12] at h
              refine lv_bipush (v := 10) hx hb dX5_wants_72 (by decide) ?_
              refine lv_iload hx hb dX5_wants_74 (lv_at hl 5 rfl) ?_
              refine lv_iadd hx hb dX5_wants_76 ?_
              refine lv_goto (tgt := 82) hx hb dX5_wants_77 (by decide) ?_
              obtain ⟨q_16, hq_16, h⟩ := bi_some h
              refine va_calli (va_runV (As := [.int p2, .int (10 + p4)]) (rest := []) ⟨hx, hb, hml, hown, hts⟩ (k_X2_add l dC dI cI c9 ad hI M (w_3 + 1) (wok.r1 hw_3) p2 (10 + p4) q_16 hq_16) (cwV 2 hts gX5_wants_X2_add rfl rfl rfl (by decide +kernel) ⟨Nat.le_of_ble_eq_true rfl, Nat.le_of_ble_eq_true rfl⟩) (gP_preV hKK hKw hP (va_recv hKw hP (ci := 2) (q0 := (w_3 + 1)) rfl (cw_rows (wok.r1 hw_3).lt (wok.r1 hw_3).k0))) rfl rfl hl.1 rfl (lv_room (Nat.le_of_ble_eq_true rfl)) dX5_wants_82 ⟨Nat.zero_le _, Nat.zero_le _⟩) hS (fun q _ h => h) (fun q h => h) (fun r_17 M_18 t H locs ht hvm hw hP hz1 hk1 hS => ?_)
              obtain ⟨h1, h2⟩ := hw
              subst h1 h2
              rw [ht] at hP
              have hD := cwl_D hI (enc cI c9 ad q_16.2)
              replace h := Option.some.inj h
              subst h
              exact W.iret (v := q_16.1) hx hb hr (fun t ht hW => ⟨⟨_, _, rfl, ⟨rfl, rfl⟩, (show va_P (dC, dI) vwCl (cW cI c9 ad q_16.2) t.heap by rw [ht]; exact hP)⟩, hS.F ht⟩) hS.2.2 dX5_wants_85
          · rw [if_neg c_11] at h
            refine lv_bipush (v := (-3)) hx hb dX5_wants_59 (by decide) ?_
            replace h := Option.some.inj h
            subst h
            exact W.iret (v := (-3)) hx hb hr (fun t ht hW => ⟨⟨_, _, rfl, ⟨rfl, rfl⟩, (show va_P (dC, dI) vwCl (cW cI c9 ad M) t.heap by rw [ht]; exact hP)⟩, hS.F ht⟩) hS.2.2 dX5_wants_61
        · rw [if_pos c_10] at h
          refine lv_bipush (v := (-2)) hx hb dX5_wants_48 (by decide) ?_
          replace h := Option.some.inj h
          subst h
          exact W.iret (v := (-2)) hx hb hr (fun t ht hW => ⟨⟨_, _, rfl, ⟨rfl, rfl⟩, (show va_P (dC, dI) vwCl (cW cI c9 ad M) t.heap by rw [ht]; exact hP)⟩, hS.F ht⟩) hS.2.2 dX5_wants_50
      · rw [if_neg c_7] at h
        refine lv_aload_n hx hb dX5_wants_27 rfl (lv_at hl 1 rfl) ?_
        refine lv_iload_n hx hb dX5_wants_28 rfl (lv_at hl 2 rfl) ?_
        refine lv_iload hx hb dX5_wants_29 (lv_at hl 5 rfl) ?_
        obtain ⟨q_19, hq_19, h⟩ := bi_some h
        refine vp_callSi (va_Run.run (va_runV (As := [.int p1, .int p4]) (rest := []) ⟨hx, hb, hml, hown, hts⟩ (k_X5_isOther l dC dI cI c9 ad hI M p1 p4 q_19 hq_19) (cwV 2 hts gX5_wants_X5_isOther rfl rfl rfl (by decide +kernel) ⟨Nat.le_of_ble_eq_true rfl, Nat.le_of_ble_eq_true rfl⟩) (gP_preV hKK hKw hP (va_recv hKw hP (ci := 5) (q0 := 0) rfl cw_lt)) rfl rfl hl.1 rfl (lv_room (Nat.le_of_ble_eq_true rfl)) dX5_wants_31 ⟨Nat.zero_le _, Nat.zero_le _⟩)) (fun r_20 hr_20 => ?_)
        replace hr_20 := hr_20.symm
        subst hr_20
        refine lv_if_ne (tgt := 51) hx hb dX5_wants_34 (by decide) (fun c_21 => ?_) (fun c_21 => ?_)
        · rw [if_neg c_21] at h
          refine lv_aload hx hb dX5_wants_51 (lv_at hl 0 rfl) ?_
          refine va_getN (D := (dC, dI)) (ci := 4) (v := .int (M w_3 10)) (C := RX4) (T := TX4) (N := 12) hx hb hts jX5_wants_X4 hown hKw hP w_3 (cw_work (wok.lt hw_3) (wok.k hw_3)) rfl 10 (by decide) (va_Nw.use rfl (hKK.2.2 (.fieldLinkNest RX5 67 RX4 "hadTurn" "Z" RX5) (by decide +kernel))) (fun _ h9 => h9) rfl dX5_wants_53 ?_
          refine lv_if_eq (tgt := 62) hx hb dX5_wants_56 (by decide) (fun c_22 => ?_) (fun c_22 => ?_)
          · rw [if_pos c_22] at h
            refine lv_aload hx hb dX5_wants_62 (lv_at hl 0 rfl) ?_
            refine va_getN (D := (dC, dI)) (ci := 4) (v := .ref (ad (w_3 + 1))) (C := RX4) (T := TX4) (N := 12) hx hb hts jX5_wants_X4 hown hKw hP w_3 (cw_work (wok.lt hw_3) (wok.k hw_3)) rfl 1 (by decide) (va_Nw.use rfl (hKK.2.2 (.fieldLinkNest RX5 71 RX4 "wanted" "LLendThreads$Rows;" RX5) (by decide +kernel))) (fun _ h9 => h9) rfl dX5_wants_64 ?_
            refine lv_iload_n hx hb dX5_wants_67 rfl (lv_at hl 3 rfl) ?_
            refine lv_iload_n hx hb dX5_wants_68 rfl (lv_at hl 4 rfl) ?_
            refine lv_if_eq (tgt := 80) hx hb dX5_wants_69 (by decide) (fun c_23 => ?_) (fun c_23 => ?_)
            · rw [if_pos c_23] at h
              refine lv_iload hx hb dX5_wants_80 (lv_at hl 5 rfl) ?_
              obtain ⟨q_24, hq_24, h⟩ := bi_some h
              refine va_calli (va_runV (As := [.int p2, .int p4]) (rest := []) ⟨hx, hb, hml, hown, hts⟩ (k_X2_add l dC dI cI c9 ad hI M (w_3 + 1) (wok.r1 hw_3) p2 p4 q_24 hq_24) (cwV 2 hts gX5_wants_X2_add rfl rfl rfl (by decide +kernel) ⟨Nat.le_of_ble_eq_true rfl, Nat.le_of_ble_eq_true rfl⟩) (gP_preV hKK hKw hP (va_recv hKw hP (ci := 2) (q0 := (w_3 + 1)) rfl (cw_rows (wok.r1 hw_3).lt (wok.r1 hw_3).k0))) rfl rfl hl.1 rfl (lv_room (Nat.le_of_ble_eq_true rfl)) dX5_wants_82 ⟨Nat.zero_le _, Nat.zero_le _⟩) hS (fun q _ h => h) (fun q h => h) (fun r_25 M_26 t H locs ht hvm hw hP hz1 hk1 hS => ?_)
              obtain ⟨h1, h2⟩ := hw
              subst h1 h2
              rw [ht] at hP
              have hD := cwl_D hI (enc cI c9 ad q_24.2)
              replace h := Option.some.inj h
              subst h
              exact W.iret (v := q_24.1) hx hb hr (fun t ht hW => ⟨⟨_, _, rfl, ⟨rfl, rfl⟩, (show va_P (dC, dI) vwCl (cW cI c9 ad q_24.2) t.heap by rw [ht]; exact hP)⟩, hS.F ht⟩) hS.2.2 dX5_wants_85
            · rw [if_neg c_23] at h
              refine lv_bipush (v := 10) hx hb dX5_wants_72 (by decide) ?_
              refine lv_iload hx hb dX5_wants_74 (lv_at hl 5 rfl) ?_
              refine lv_iadd hx hb dX5_wants_76 ?_
              refine lv_goto (tgt := 82) hx hb dX5_wants_77 (by decide) ?_
              obtain ⟨q_27, hq_27, h⟩ := bi_some h
              refine va_calli (va_runV (As := [.int p2, .int (10 + p4)]) (rest := []) ⟨hx, hb, hml, hown, hts⟩ (k_X2_add l dC dI cI c9 ad hI M (w_3 + 1) (wok.r1 hw_3) p2 (10 + p4) q_27 hq_27) (cwV 2 hts gX5_wants_X2_add rfl rfl rfl (by decide +kernel) ⟨Nat.le_of_ble_eq_true rfl, Nat.le_of_ble_eq_true rfl⟩) (gP_preV hKK hKw hP (va_recv hKw hP (ci := 2) (q0 := (w_3 + 1)) rfl (cw_rows (wok.r1 hw_3).lt (wok.r1 hw_3).k0))) rfl rfl hl.1 rfl (lv_room (Nat.le_of_ble_eq_true rfl)) dX5_wants_82 ⟨Nat.zero_le _, Nat.zero_le _⟩) hS (fun q _ h => h) (fun q h => h) (fun r_28 M_29 t H locs ht hvm hw hP hz1 hk1 hS => ?_)
              obtain ⟨h1, h2⟩ := hw
              subst h1 h2
              rw [ht] at hP
              have hD := cwl_D hI (enc cI c9 ad q_27.2)
              replace h := Option.some.inj h
              subst h
              exact W.iret (v := q_27.1) hx hb hr (fun t ht hW => ⟨⟨_, _, rfl, ⟨rfl, rfl⟩, (show va_P (dC, dI) vwCl (cW cI c9 ad q_27.2) t.heap by rw [ht]; exact hP)⟩, hS.F ht⟩) hS.2.2 dX5_wants_85
          · rw [if_neg c_22] at h
            refine lv_bipush (v := (-3)) hx hb dX5_wants_59 (by decide) ?_
            replace h := Option.some.inj h
            subst h
            exact W.iret (v := (-3)) hx hb hr (fun t ht hW => ⟨⟨_, _, rfl, ⟨rfl, rfl⟩, (show va_P (dC, dI) vwCl (cW cI c9 ad M) t.heap by rw [ht]; exact hP)⟩, hS.F ht⟩) hS.2.2 dX5_wants_61
        · rw [if_pos c_21] at h
          refine lv_goto (tgt := 48) hx hb dX5_wants_37 (by decide) ?_
          refine lv_bipush (v := (-2)) hx hb dX5_wants_48 (by decide) ?_
          replace h := Option.some.inj h
          subst h
          exact W.iret (v := (-2)) hx hb hr (fun t ht hW => ⟨⟨_, _, rfl, ⟨rfl, rfl⟩, (show va_P (dC, dI) vwCl (cW cI c9 ad M) t.heap by rw [ht]; exact hP)⟩, hS.F ht⟩) hS.2.2 dX5_wants_50
    · rw [if_pos c_6] at h
      refine lv_iconst (v := (-1)) hx hb dX5_wants_21 (by decide) ?_
      replace h := Option.some.inj h
      subst h
      exact W.iret (v := (-1)) hx hb hr (fun t ht hW => ⟨⟨_, _, rfl, ⟨rfl, rfl⟩, (show va_P (dC, dI) vwCl (cW cI c9 ad M) t.heap by rw [ht]; exact hP)⟩, hS.F ht⟩) hS.2.2 dX5_wants_22
theorem jX5_sends_X4 : ∀ w ∈ u_ws RX4 TX4 12, w ∈ wsX5_sends := by decide +kernel
def F_X5_sends (M : Mem) (p1 : Int32) (p2 : Int32) (p3 : Int32) : Option (Int32 × Mem) :=
  bi (F_X5_find M p1) fun q_1 => match q_1 with | none => some ((-1), M) | some w_3 => bi (F_X4_isStep M w_3 p2) fun q_4 => (if q_4 = 0 then some ((-1), M) else bi (F_X5_isOther M p1 p3) fun q_7 => (if q_7 = 0 then some ((-2), M) else (if (M w_3 10) = 0 then bi (F_X2_add M (w_3 + 4) p2 p3) fun q_11 => some (q_11.1, q_11.2) else some ((-3), M))))
set_option maxHeartbeats 4000000 in
set_option maxRecDepth 100000 in
theorem k_X5_sends (l : Launch) (dC : Nat → ClassId) (dI : Nat → Nat → Nat) (cI c9 : ClassId) (ad : Nat → Nat) (hI : Inj 100 ad) (M : Mem) (p1 : Int32) (p2 : Int32) (p3 : Int32) (q : Int32 × Mem) (h : F_X5_sends M p1 p2 p3 = some q) : Met l yX5_sends wsX5_sends ({ frames := 2, cells := 0, slots := 0, locals := 43 }) (gP dC dI cI c9 ad M [.ref (ad 0), .int p1, .int p2, .int p3]) (va_Qi (fun x M' => x = q.1 ∧ M' = q.2) (fun M' t => va_P (dC, dI) vwCl (cW cI c9 ad M') t.heap) (Ac 100 ad)) 0 0 (Ac 100 ad) := by
  refine Met.ofW (cc := cX5_sends) (maxL := 5) (ret := (some .int)) (by decide) rfl ?_
  intro p e s m args below meth c s₁ B hml hv
  obtain ⟨rfl, hP, hKK, hKw⟩ := hv
  have hx := B.exec
  have hb := B.bytes
  have hr := B.returns
  have hts := atoms_spec (ws := wsX5_sends) B.pre
  have hown : s.vm.findClass RX5 = some m.cls := findClass_of_methodNamed B.named
  have hlocks := B.notSynchronized
  have hD := cwl_D hI (enc cI c9 ad M)
  have hS : va_S (Ac 100 ad) s.heap s.heap [] := va_S.rf
  have hl := lv_entry ([.ref (ad 0), .int p1, .int p2, .int p3]) (n := 5) (Nat.le_of_ble_eq_true rfl)
  rw [lg_entry_eq]
  generalize (lg_sl ([.ref (ad 0), .int p1, .int p2, .int p3]) ++ List.replicate (5 - (lg_sl ([.ref (ad 0), .int p1, .int p2, .int p3])).length) Slot.unset).toArray = ls at hl ⊢
  have hl : lv_has ls 5 [(0, .ref (ad 0)), (1, .int p1), (2, .int p2), (3, .int p3)] := hl
  unfold F_X5_sends at h
  refine lv_aload_n hx hb dX5_sends_0 rfl (lv_at hl 0 rfl) ?_
  refine lv_iload_n hx hb dX5_sends_1 rfl (lv_at hl 1 rfl) ?_
  obtain ⟨q_1, hq_1, h⟩ := bi_some h
  refine va_csq (va_Run.run (va_runV (As := [.int p1]) (rest := []) ⟨hx, hb, hml, hown, hts⟩ (k_X5_find l dC dI cI c9 ad hI M p1 q_1 hq_1) (cwV 1 hts gX5_sends_X5_find rfl rfl rfl (by decide +kernel) ⟨Nat.le_of_ble_eq_true rfl, Nat.le_of_ble_eq_true rfl⟩) (gP_preV hKK hKw hP (va_recv hKw hP (ci := 5) (q0 := 0) rfl cw_lt)) rfl rfl hl.1 rfl (lv_room (Nat.le_of_ble_eq_true rfl)) dX5_sends_2 ⟨Nat.zero_le _, Nat.zero_le _⟩)) (fun r_2 hr_2 => ?_)
  subst hr_2
  cases q_1 with
  | none =>
    dsimp only at h
    refine W.eq (g2 := F0 m 5 ls [.null]) rfl ?_
    refine lv_astoreN (lv' := [(4, .null), (0, .ref (ad 0)), (1, .int p1), (2, .int p2), (3, .int p3)]) hx hb dX5_sends_5 hl (by decide) rfl (fun ls hl => ?_)
    refine lv_aloadN hx hb dX5_sends_7 (lv_at hl 0 rfl) ?_
    refine lv_ifnullN (tgt := 21) hx hb dX5_sends_9 (by decide) ?_
    refine lv_iconst (v := (-1)) hx hb dX5_sends_21 (by decide) ?_
    replace h := Option.some.inj h
    subst h
    exact W.iret (v := (-1)) hx hb hr (fun t ht hW => ⟨⟨_, _, rfl, ⟨rfl, rfl⟩, (show va_P (dC, dI) vwCl (cW cI c9 ad M) t.heap by rw [ht]; exact hP)⟩, hS.F ht⟩) hS.2.2 dX5_sends_22
  | some w_3 =>
    dsimp only at h
    have hw_3 : wok w_3 := find_wok hq_1
    refine W.eq (g2 := F0 m 5 ls [.ref (ad w_3)]) rfl ?_
    refine lv_astore (lv' := [(4, .ref (ad w_3)), (0, .ref (ad 0)), (1, .int p1), (2, .int p2), (3, .int p3)]) hx hb dX5_sends_5 hl (by decide) rfl (fun ls hl => ?_)
    refine lv_aload hx hb dX5_sends_7 (lv_at hl 0 rfl) ?_
    refine lv_ifnull hx hb dX5_sends_9 ?_
    refine lv_aload hx hb dX5_sends_12 (lv_at hl 0 rfl) ?_
    refine lv_iload_n hx hb dX5_sends_14 rfl (lv_at hl 3 rfl) ?_
    obtain ⟨q_4, hq_4, h⟩ := bi_some h
    refine vp_callSi (va_Run.run (va_runV (As := [.int p2]) (rest := []) ⟨hx, hb, hml, hown, hts⟩ (k_X4_isStep l dC dI cI c9 ad hI M w_3 hw_3 p2 q_4 hq_4) (cwV 1 hts gX5_sends_X4_isStep rfl rfl rfl (by decide +kernel) ⟨Nat.le_of_ble_eq_true rfl, Nat.le_of_ble_eq_true rfl⟩) (gP_preV hKK hKw hP (va_recv hKw hP (ci := 4) (q0 := w_3) rfl (cw_work (wok.lt hw_3) (wok.k hw_3)))) rfl rfl hl.1 rfl (lv_room (Nat.le_of_ble_eq_true rfl)) dX5_sends_15 ⟨Nat.zero_le _, Nat.zero_le _⟩)) (fun r_5 hr_5 => ?_)
    replace hr_5 := hr_5.symm
    subst hr_5
    refine lv_if_ne (tgt := 23) hx hb dX5_sends_18 (by decide) (fun c_6 => ?_) (fun c_6 => ?_)
    · rw [if_neg c_6] at h
      refine lv_aload_n hx hb dX5_sends_23 rfl (lv_at hl 1 rfl) ?_
      refine lv_iload_n hx hb dX5_sends_24 rfl (lv_at hl 2 rfl) ?_
      refine lv_iload_n hx hb dX5_sends_25 rfl (lv_at hl 4 rfl) ?_
      obtain ⟨q_7, hq_7, h⟩ := bi_some h
      refine vp_callSi (va_Run.run (va_runV (As := [.int p1, .int p3]) (rest := []) ⟨hx, hb, hml, hown, hts⟩ (k_X5_isOther l dC dI cI c9 ad hI M p1 p3 q_7 hq_7) (cwV 2 hts gX5_sends_X5_isOther rfl rfl rfl (by decide +kernel) ⟨Nat.le_of_ble_eq_true rfl, Nat.le_of_ble_eq_true rfl⟩) (gP_preV hKK hKw hP (va_recv hKw hP (ci := 5) (q0 := 0) rfl cw_lt)) rfl rfl hl.1 rfl (lv_room (Nat.le_of_ble_eq_true rfl)) dX5_sends_26 ⟨Nat.zero_le _, Nat.zero_le _⟩)) (fun r_8 hr_8 => ?_)
      replace hr_8 := hr_8.symm
      subst hr_8
      refine lv_if_ne (tgt := 35) hx hb dX5_sends_29 (by decide) (fun c_9 => ?_) (fun c_9 => ?_)
      · rw [if_neg c_9] at h
        refine lv_aload hx hb dX5_sends_35 (lv_at hl 0 rfl) ?_
        refine va_getN (D := (dC, dI)) (ci := 4) (v := .int (M w_3 10)) (C := RX4) (T := TX4) (N := 12) hx hb hts jX5_sends_X4 hown hKw hP w_3 (cw_work (wok.lt hw_3) (wok.k hw_3)) rfl 10 (by decide) (va_Nw.use rfl (hKK.2.2 (.fieldLinkNest RX5 67 RX4 "hadTurn" "Z" RX5) (by decide +kernel))) (fun _ h9 => h9) rfl dX5_sends_37 ?_
        refine lv_if_eq (tgt := 46) hx hb dX5_sends_40 (by decide) (fun c_10 => ?_) (fun c_10 => ?_)
        · rw [if_pos c_10] at h
          refine lv_aload hx hb dX5_sends_46 (lv_at hl 0 rfl) ?_
          refine va_getN (D := (dC, dI)) (ci := 4) (v := .ref (ad (w_3 + 4))) (C := RX4) (T := TX4) (N := 12) hx hb hts jX5_sends_X4 hown hKw hP w_3 (cw_work (wok.lt hw_3) (wok.k hw_3)) rfl 2 (by decide) (va_Nw.use rfl (hKK.2.2 (.fieldLinkNest RX5 81 RX4 "receivers" "LLendThreads$Rows;" RX5) (by decide +kernel))) (fun _ h9 => h9) rfl dX5_sends_48 ?_
          refine lv_iload_n hx hb dX5_sends_51 rfl (lv_at hl 3 rfl) ?_
          refine lv_iload_n hx hb dX5_sends_52 rfl (lv_at hl 4 rfl) ?_
          obtain ⟨q_11, hq_11, h⟩ := bi_some h
          refine va_calli (va_runV (As := [.int p2, .int p3]) (rest := []) ⟨hx, hb, hml, hown, hts⟩ (k_X2_add l dC dI cI c9 ad hI M (w_3 + 4) (wok.r4 hw_3) p2 p3 q_11 hq_11) (cwV 2 hts gX5_sends_X2_add rfl rfl rfl (by decide +kernel) ⟨Nat.le_of_ble_eq_true rfl, Nat.le_of_ble_eq_true rfl⟩) (gP_preV hKK hKw hP (va_recv hKw hP (ci := 2) (q0 := (w_3 + 4)) rfl (cw_rows (wok.r4 hw_3).lt (wok.r4 hw_3).k0))) rfl rfl hl.1 rfl (lv_room (Nat.le_of_ble_eq_true rfl)) dX5_sends_53 ⟨Nat.zero_le _, Nat.zero_le _⟩) hS (fun q _ h => h) (fun q h => h) (fun r_12 M_13 t H locs ht hvm hw hP hz1 hk1 hS => ?_)
          obtain ⟨h1, h2⟩ := hw
          subst h1 h2
          rw [ht] at hP
          have hD := cwl_D hI (enc cI c9 ad q_11.2)
          replace h := Option.some.inj h
          subst h
          exact W.iret (v := q_11.1) hx hb hr (fun t ht hW => ⟨⟨_, _, rfl, ⟨rfl, rfl⟩, (show va_P (dC, dI) vwCl (cW cI c9 ad q_11.2) t.heap by rw [ht]; exact hP)⟩, hS.F ht⟩) hS.2.2 dX5_sends_56
        · rw [if_neg c_10] at h
          refine lv_bipush (v := (-3)) hx hb dX5_sends_43 (by decide) ?_
          replace h := Option.some.inj h
          subst h
          exact W.iret (v := (-3)) hx hb hr (fun t ht hW => ⟨⟨_, _, rfl, ⟨rfl, rfl⟩, (show va_P (dC, dI) vwCl (cW cI c9 ad M) t.heap by rw [ht]; exact hP)⟩, hS.F ht⟩) hS.2.2 dX5_sends_45
      · rw [if_pos c_9] at h
        refine lv_bipush (v := (-2)) hx hb dX5_sends_32 (by decide) ?_
        replace h := Option.some.inj h
        subst h
        exact W.iret (v := (-2)) hx hb hr (fun t ht hW => ⟨⟨_, _, rfl, ⟨rfl, rfl⟩, (show va_P (dC, dI) vwCl (cW cI c9 ad M) t.heap by rw [ht]; exact hP)⟩, hS.F ht⟩) hS.2.2 dX5_sends_34
    · rw [if_pos c_6] at h
      refine lv_iconst (v := (-1)) hx hb dX5_sends_21 (by decide) ?_
      replace h := Option.some.inj h
      subst h
      exact W.iret (v := (-1)) hx hb hr (fun t ht hW => ⟨⟨_, _, rfl, ⟨rfl, rfl⟩, (show va_P (dC, dI) vwCl (cW cI c9 ad M) t.heap by rw [ht]; exact hP)⟩, hS.F ht⟩) hS.2.2 dX5_sends_22
theorem jX5_loses_X1 : ∀ w ∈ u_ws RX1 TX1 3, w ∈ wsX5_loses := by decide +kernel
theorem jX5_loses_X5 : ∀ w ∈ u_ws RX5 TX5 5, w ∈ wsX5_loses := by decide +kernel
def F_X5_loses (M : Mem) (p1 : Int32) : Option (Int32 × Mem) :=
  (if p1 < 0 then some ((-2), M) else (if p1 ≤ 100 then bm (up2 M 9 2 p1) fun M_3 => some (1, M_3) else some ((-2), M)))
set_option maxHeartbeats 4000000 in
set_option maxRecDepth 100000 in
theorem k_X5_loses (l : Launch) (dC : Nat → ClassId) (dI : Nat → Nat → Nat) (cI c9 : ClassId) (ad : Nat → Nat) (hI : Inj 100 ad) (M : Mem) (p1 : Int32) (q : Int32 × Mem) (h : F_X5_loses M p1 = some q) : Met l yX5_loses wsX5_loses ({ frames := 0, cells := 0, slots := 0, locals := 0 }) (gP dC dI cI c9 ad M [.ref (ad 0), .int p1]) (va_Qi (fun x M' => x = q.1 ∧ M' = q.2) (fun M' t => va_P (dC, dI) vwCl (cW cI c9 ad M') t.heap) (Ac 100 ad)) 0 0 (Ac 100 ad) := by
  refine Met.ofW (cc := cX5_loses) (maxL := 2) (ret := (some .int)) (by decide) rfl ?_
  intro p e s m args below meth c s₁ B hml hv
  obtain ⟨rfl, hP, hKK, hKw⟩ := hv
  have hx := B.exec
  have hb := B.bytes
  have hr := B.returns
  have hts := atoms_spec (ws := wsX5_loses) B.pre
  have hown : s.vm.findClass RX5 = some m.cls := findClass_of_methodNamed B.named
  have hlocks := B.notSynchronized
  have hD := cwl_D hI (enc cI c9 ad M)
  have hS : va_S (Ac 100 ad) s.heap s.heap [] := va_S.rf
  have hl := lv_entry ([.ref (ad 0), .int p1]) (n := 2) (Nat.le_of_ble_eq_true rfl)
  rw [lg_entry_eq]
  generalize (lg_sl ([.ref (ad 0), .int p1]) ++ List.replicate (2 - (lg_sl ([.ref (ad 0), .int p1])).length) Slot.unset).toArray = ls at hl ⊢
  have hl : lv_has ls 2 [(0, .ref (ad 0)), (1, .int p1)] := hl
  unfold F_X5_loses at h
  refine lv_iload_n hx hb dX5_loses_0 rfl (lv_at hl 1 rfl) ?_
  refine lv_if_lt (tgt := 10) hx hb dX5_loses_1 (by decide) (fun c_1 => ?_) (fun c_1 => ?_)
  · rw [if_pos c_1] at h
    refine lv_bipush (v := (-2)) hx hb dX5_loses_10 (by decide) ?_
    replace h := Option.some.inj h
    subst h
    exact W.iret (v := (-2)) hx hb hr (fun t ht hW => ⟨⟨_, _, rfl, ⟨rfl, rfl⟩, (show va_P (dC, dI) vwCl (cW cI c9 ad M) t.heap by rw [ht]; exact hP)⟩, hS.F ht⟩) hS.2.2 dX5_loses_12
  · rw [if_neg c_1] at h
    refine lv_iload_n hx hb dX5_loses_4 rfl (lv_at hl 1 rfl) ?_
    refine lv_bipush (v := 100) hx hb dX5_loses_5 (by decide) ?_
    refine lv_icmp_le (tgt := 13) hx hb dX5_loses_7 (by decide) (fun c_2 => ?_) (fun c_2 => ?_)
    · rw [if_pos c_2] at h
      refine lv_aload_n hx hb dX5_loses_13 rfl (lv_at hl 0 rfl) ?_
      refine va_get (D := (dC, dI)) (ci := 5) (v := .ref (ad 9)) (C := RX5) (T := TX5) (N := 5) hx hb hts jX5_loses_X5 hown hKw hP 0 cw_lt rfl 3 (by decide) (hts (.fieldLink RX5 25 "LendThreads" "post" "LLendThreads$Post;") (by decide +kernel)) (fun _ h9 => h9) rfl dX5_loses_14 ?_
      refine lv_iload_n hx hb dX5_loses_17 rfl (lv_at hl 1 rfl) ?_
      refine va_putN (D := (dC, dI)) (ci := 1) (v := .int p1) (ty := .int) (C := RX1) (T := TX1) (N := 3) hx hb hts jX5_loses_X1 tyX1 tyX1_ok nmX1 hown hKw hP hD hS 9 cw_post rfl 2 (by decide) (va_Nw.use rfl (hKK.2.2 (.fieldLinkNest RX5 84 RX1 "toLose" "I" RX5) (by decide +kernel))) (fun _ h9 => h9) rfl (by decide +kernel) rfl rfl (Nat.le_of_ble_eq_true rfl) dX5_loses_18 (fun H locs hP _ hS => ?_)
      have hP : va_P (dC, dI) vwCl (cW cI c9 ad (up2 M 9 2 p1)) H := by show va_P (dC, dI) vwCl (cwl 100 ad (enc cI c9 ad (up2 M 9 2 p1))) H; rw [← en_p9, ← cwl_set (by decide)]; exact hP
      have hD := cwl_D hI (enc cI c9 ad (up2 M 9 2 p1))
      generalize up2 M 9 2 p1 = M_3 at hP hD h
      replace h := bm_e h
      try dsimp only at h
      refine lv_iconst (v := 1) hx hb dX5_loses_21 (by decide) ?_
      replace h := Option.some.inj h
      subst h
      exact W.iret (v := 1) hx hb hr (fun t ht hW => ⟨⟨_, _, rfl, ⟨rfl, rfl⟩, (show va_P (dC, dI) vwCl (cW cI c9 ad M_3) t.heap by rw [ht]; exact hP)⟩, hS.F ht⟩) hS.2.2 dX5_loses_22
    · rw [if_neg c_2] at h
      refine lv_bipush (v := (-2)) hx hb dX5_loses_10 (by decide) ?_
      replace h := Option.some.inj h
      subst h
      exact W.iret (v := (-2)) hx hb hr (fun t ht hW => ⟨⟨_, _, rfl, ⟨rfl, rfl⟩, (show va_P (dC, dI) vwCl (cW cI c9 ad M) t.heap by rw [ht]; exact hP)⟩, hS.F ht⟩) hS.2.2 dX5_loses_12
def F_X5_turn (M : Mem) (p1 : Int32) : Option (Int32 × Mem) :=
  bi (F_X5_find M p1) fun q_1 => match q_1 with | none => some (0, M) | some w_3 => bi (F_X5_takeTurn M w_3) fun q_4 => some (q_4.1, q_4.2)
set_option maxHeartbeats 4000000 in
set_option maxRecDepth 100000 in
theorem k_X5_turn (l : Launch) (dC : Nat → ClassId) (dI : Nat → Nat → Nat) (cI c9 : ClassId) (ad : Nat → Nat) (hI : Inj 100 ad) (M : Mem) (p1 : Int32) (q : Int32 × Mem) (h : F_X5_turn M p1 = some q) : Met l yX5_turn wsX5_turn ({ frames := 7, cells := 0, slots := 0, locals := 157 }) (gP dC dI cI c9 ad M [.ref (ad 0), .int p1]) (va_Qi (fun x M' => x = q.1 ∧ M' = q.2) (fun M' t => va_P (dC, dI) vwCl (cW cI c9 ad M') t.heap) (Ac 100 ad)) 0 0 (Ac 100 ad) := by
  refine Met.ofW (cc := cX5_turn) (maxL := 3) (ret := (some .int)) (by decide) rfl ?_
  intro p e s m args below meth c s₁ B hml hv
  obtain ⟨rfl, hP, hKK, hKw⟩ := hv
  have hx := B.exec
  have hb := B.bytes
  have hr := B.returns
  have hts := atoms_spec (ws := wsX5_turn) B.pre
  have hown : s.vm.findClass RX5 = some m.cls := findClass_of_methodNamed B.named
  have hlocks := B.notSynchronized
  have hD := cwl_D hI (enc cI c9 ad M)
  have hS : va_S (Ac 100 ad) s.heap s.heap [] := va_S.rf
  have hl := lv_entry ([.ref (ad 0), .int p1]) (n := 3) (Nat.le_of_ble_eq_true rfl)
  rw [lg_entry_eq]
  generalize (lg_sl ([.ref (ad 0), .int p1]) ++ List.replicate (3 - (lg_sl ([.ref (ad 0), .int p1])).length) Slot.unset).toArray = ls at hl ⊢
  have hl : lv_has ls 3 [(0, .ref (ad 0)), (1, .int p1)] := hl
  unfold F_X5_turn at h
  refine lv_aload_n hx hb dX5_turn_0 rfl (lv_at hl 0 rfl) ?_
  refine lv_iload_n hx hb dX5_turn_1 rfl (lv_at hl 1 rfl) ?_
  obtain ⟨q_1, hq_1, h⟩ := bi_some h
  refine va_csq (va_Run.run (va_runV (As := [.int p1]) (rest := []) ⟨hx, hb, hml, hown, hts⟩ (k_X5_find l dC dI cI c9 ad hI M p1 q_1 hq_1) (cwV 1 hts gX5_turn_X5_find rfl rfl rfl (by decide +kernel) ⟨Nat.le_of_ble_eq_true rfl, Nat.le_of_ble_eq_true rfl⟩) (gP_preV hKK hKw hP (va_recv hKw hP (ci := 5) (q0 := 0) rfl cw_lt)) rfl rfl hl.1 rfl (lv_room (Nat.le_of_ble_eq_true rfl)) dX5_turn_2 ⟨Nat.zero_le _, Nat.zero_le _⟩)) (fun r_2 hr_2 => ?_)
  subst hr_2
  cases q_1 with
  | none =>
    dsimp only at h
    refine W.eq (g2 := F0 m 5 ls [.null]) rfl ?_
    refine lv_astore_nN (lv' := [(2, .null), (0, .ref (ad 0)), (1, .int p1)]) hx hb dX5_turn_5 rfl hl (by decide) rfl (fun ls hl => ?_)
    refine lv_aload_nN hx hb dX5_turn_6 rfl (lv_at hl 0 rfl) ?_
    refine lv_ifnonnullN hx hb dX5_turn_7 ?_
    refine lv_iconst (v := 0) hx hb dX5_turn_10 (by decide) ?_
    refine lv_goto (tgt := 19) hx hb dX5_turn_11 (by decide) ?_
    replace h := Option.some.inj h
    subst h
    exact W.iret (v := 0) hx hb hr (fun t ht hW => ⟨⟨_, _, rfl, ⟨rfl, rfl⟩, (show va_P (dC, dI) vwCl (cW cI c9 ad M) t.heap by rw [ht]; exact hP)⟩, hS.F ht⟩) hS.2.2 dX5_turn_19
  | some w_3 =>
    dsimp only at h
    have hw_3 : wok w_3 := find_wok hq_1
    refine W.eq (g2 := F0 m 5 ls [.ref (ad w_3)]) rfl ?_
    refine lv_astore_n (lv' := [(2, .ref (ad w_3)), (0, .ref (ad 0)), (1, .int p1)]) hx hb dX5_turn_5 rfl hl (by decide) rfl (fun ls hl => ?_)
    refine lv_aload_n hx hb dX5_turn_6 rfl (lv_at hl 0 rfl) ?_
    refine lv_ifnonnull (tgt := 14) hx hb dX5_turn_7 (by decide) ?_
    refine lv_aload_n hx hb dX5_turn_14 rfl (lv_at hl 1 rfl) ?_
    refine lv_aload_n hx hb dX5_turn_15 rfl (lv_at hl 0 rfl) ?_
    obtain ⟨q_4, hq_4, h⟩ := bi_some h
    refine va_calli (va_runV (As := [.ref (ad w_3)]) (rest := []) ⟨hx, hb, hml, hown, hts⟩ (k_X5_takeTurn l dC dI cI c9 ad hI M w_3 hw_3 q_4 hq_4) (cwV 1 hts gX5_turn_X5_takeTurn rfl rfl rfl (by decide +kernel) ⟨Nat.le_of_ble_eq_true rfl, Nat.le_of_ble_eq_true rfl⟩) (gP_preV hKK hKw hP (va_recv hKw hP (ci := 5) (q0 := 0) rfl cw_lt)) rfl rfl hl.1 rfl (lv_room (Nat.le_of_ble_eq_true rfl)) dX5_turn_16 ⟨Nat.zero_le _, Nat.zero_le _⟩) hS (fun q _ h => h) (fun q h => h) (fun r_5 M_6 t H locs ht hvm hw hP hz1 hk1 hS => ?_)
    obtain ⟨h1, h2⟩ := hw
    subst h1 h2
    rw [ht] at hP
    have hD := cwl_D hI (enc cI c9 ad q_4.2)
    replace h := Option.some.inj h
    subst h
    exact W.iret (v := q_4.1) hx hb hr (fun t ht hW => ⟨⟨_, _, rfl, ⟨rfl, rfl⟩, (show va_P (dC, dI) vwCl (cW cI c9 ad q_4.2) t.heap by rw [ht]; exact hP)⟩, hS.F ht⟩) hS.2.2 dX5_turn_19
theorem jX5_run_X5 : ∀ w ∈ u_ws RX5 TX5 5, w ∈ wsX5_run := by decide +kernel
def L_X5_run_21 (K : Mem → Int32 → Int32 → Int32 → Option (Int32 × Mem)) (v3_6 : Int32) : Nat → Mem → Int32 → Int32 → Int32 → Option (Int32 × Mem)
  | 0, _, _, _, _ => none
  | n + 1, M_4, v1_21, v2_21, v4_21 => (if (M_4 0 1) ≤ v4_21 then K M_4 v1_21 v2_21 v4_21 else gd (inb v4_21 12) <| bi (F_X5_takeTurn M_4 (16 + 7 * v4_21.toNatClampNeg)) fun q_7 => (if v2_21 = 0 then (if q_7.1 = 0 then (if q_7.1 = 2 then L_X5_run_21 K v3_6 n q_7.2 (v1_21 + 1) 0 (v4_21 + 1) else L_X5_run_21 K v3_6 n q_7.2 (v1_21 + 0) 0 (v4_21 + 1)) else bi (F_X5_isWaiting q_7.2 q_7.1) fun q_14 => (if q_14 = 0 then (if q_7.1 = 2 then L_X5_run_21 K v3_6 n q_7.2 (v1_21 + 1) 1 (v4_21 + 1) else L_X5_run_21 K v3_6 n q_7.2 (v1_21 + 0) 1 (v4_21 + 1)) else (if q_7.1 = 2 then L_X5_run_21 K v3_6 n q_7.2 (v1_21 + 1) 0 (v4_21 + 1) else L_X5_run_21 K v3_6 n q_7.2 (v1_21 + 0) 0 (v4_21 + 1)))) else (if q_7.1 = 2 then L_X5_run_21 K v3_6 n q_7.2 (v1_21 + 1) 1 (v4_21 + 1) else L_X5_run_21 K v3_6 n q_7.2 (v1_21 + 0) 1 (v4_21 + 1))))
def L_X5_run_6 (K : Mem → Int32 → Int32 → Int32 → Option (Int32 × Mem))  : Nat → Mem → Int32 → Int32 → Int32 → Option (Int32 × Mem)
  | 0, _, _, _, _ => none
  | n + 1, M_1, v1_6, v2_6, v3_6 => (if v2_6 = 0 then K M_1 v1_6 v2_6 v3_6 else (if 1000000 ≤ v3_6 then K M_1 v1_6 v2_6 v3_6 else L_X5_run_21 (fun M_4 v1_21 v2_21 v4_21 => L_X5_run_6 K  n M_4 v1_21 v2_21 (v3_6 + 1)) v3_6 4000 M_1 v1_6 0 0))
def F_X5_run (M : Mem) : Option (Int32 × Mem) :=
  L_X5_run_6 (fun M_1 v1_6 v2_6 v3_6 => some (v1_6, M_1))  1000002 M 0 1 0
set_option maxHeartbeats 4000000 in
set_option maxRecDepth 100000 in
theorem k_X5_run (l : Launch) (dC : Nat → ClassId) (dI : Nat → Nat → Nat) (cI c9 : ClassId) (ad : Nat → Nat) (hI : Inj 100 ad) (M : Mem) (q : Int32 × Mem) (h : F_X5_run M  = some q) : Met l yX5_run wsX5_run ({ frames := 7, cells := 0, slots := 0, locals := 157 }) (gP dC dI cI c9 ad M [.ref (ad 0)]) (va_Qi (fun x M' => x = q.1 ∧ M' = q.2) (fun M' t => va_P (dC, dI) vwCl (cW cI c9 ad M') t.heap) (Ac 100 ad)) 0 0 (Ac 100 ad) := by
  refine Met.ofW (cc := cX5_run) (maxL := 6) (ret := (some .int)) (by decide) rfl ?_
  intro p e s m args below meth c s₁ B hml hv
  obtain ⟨rfl, hP, hKK, hKw⟩ := hv
  have hx := B.exec
  have hb := B.bytes
  have hr := B.returns
  have hts := atoms_spec (ws := wsX5_run) B.pre
  have hown : s.vm.findClass RX5 = some m.cls := findClass_of_methodNamed B.named
  have hlocks := B.notSynchronized
  have hD := cwl_D hI (enc cI c9 ad M)
  have hS : va_S (Ac 100 ad) s.heap s.heap [] := va_S.rf
  have hl := lv_entry ([.ref (ad 0)]) (n := 6) (Nat.le_of_ble_eq_true rfl)
  rw [lg_entry_eq]
  generalize (lg_sl ([.ref (ad 0)]) ++ List.replicate (6 - (lg_sl ([.ref (ad 0)])).length) Slot.unset).toArray = ls at hl ⊢
  have hl : lv_has ls 6 [(0, .ref (ad 0))] := hl
  unfold F_X5_run at h
  refine lv_iconst (v := 0) hx hb dX5_run_0 (by decide) ?_
  refine lv_istore_n (lv' := [(1, .int 0), (0, .ref (ad 0))]) hx hb dX5_run_1 rfl hl (by decide) rfl (fun ls hl => ?_)
  refine lv_iconst (v := 1) hx hb dX5_run_2 (by decide) ?_
  refine lv_istore_n (lv' := [(2, .int 1), (1, .int 0), (0, .ref (ad 0))]) hx hb dX5_run_3 rfl hl (by decide) rfl (fun ls hl => ?_)
  refine lv_iconst (v := 0) hx hb dX5_run_4 (by decide) ?_
  refine lv_istore_n (lv' := [(3, .int 0), (2, .int 1), (1, .int 0), (0, .ref (ad 0))]) hx hb dX5_run_5 rfl hl (by decide) rfl (fun ls hl => ?_)
  have key6 : ∀ (K : Mem → Int32 → Int32 → Int32 → Option (Int32 × Mem)), (∀ (M_1 : Mem) (v1_6 v2_6 v3_6 : Int32) (H : Heap) (locs : List Loc) (ls : Array Slot), K M_1 v1_6 v2_6 v3_6 = some q → va_P (dC, dI) vwCl (cW cI c9 ad M_1) H → va_S (Ac 100 ad) s.heap H locs → lv_has ls 6 [(3, .int v3_6), (2, .int v2_6), (1, .int v1_6), (0, .ref (ad 0))] → W p l e (headSpec wsX5_run ({ frames := 7, cells := 0, slots := 0, locals := 157 })).room s m ([.ref (ad 0)] : List Value).toArray below meth c H locs 0 0 (MQ below (va_Qi (fun x M' => x = q.1 ∧ M' = q.2) (fun M' t => va_P (dC, dI) vwCl (cW cI c9 ad M') t.heap) (Ac 100 ad)) ([.ref (ad 0)] : List Value).toArray s 0 0 (Ac 100 ad)) (F0 m 92 ls [])) → ∀ (n : Nat), ∀ (M_1 : Mem) (v1_6 v2_6 v3_6 : Int32) (H : Heap) (locs : List Loc) (ls : Array Slot), L_X5_run_6 K  n M_1 v1_6 v2_6 v3_6 = some q → va_P (dC, dI) vwCl (cW cI c9 ad M_1) H → va_S (Ac 100 ad) s.heap H locs → lv_has ls 6 [(3, .int v3_6), (2, .int v2_6), (1, .int v1_6), (0, .ref (ad 0))] → W p l e (headSpec wsX5_run ({ frames := 7, cells := 0, slots := 0, locals := 157 })).room s m ([.ref (ad 0)] : List Value).toArray below meth c H locs 0 0 (MQ below (va_Qi (fun x M' => x = q.1 ∧ M' = q.2) (fun M' t => va_P (dC, dI) vwCl (cW cI c9 ad M') t.heap) (Ac 100 ad)) ([.ref (ad 0)] : List Value).toArray s 0 0 (Ac 100 ad)) (F0 m 6 ls []) := by
    intro K hk n
    induction n with
    | zero =>
      intro M_1 v1_6 v2_6 v3_6 H locs ls h
      exact absurd h (by simp [L_X5_run_6])
    | succ n ih =>
      intro M_1 v1_6 v2_6 v3_6 H locs ls h hP hS hl
      have hD := cwl_D hI (enc cI c9 ad M_1)
      simp only [L_X5_run_6] at h
      refine lv_iload_n hx hb dX5_run_6 rfl (lv_at hl 1 rfl) ?_
      refine lv_if_eq (tgt := 92) hx hb dX5_run_7 (by decide) (fun c_2 => ?_) (fun c_2 => ?_)
      · rw [if_pos c_2] at h
        exact hk M_1 v1_6 v2_6 v3_6 _ _ _ h hP hS (lv_sub hl [0, 1, 2, 3] rfl)
      · rw [if_neg c_2] at h
        refine lv_iload_n hx hb dX5_run_10 rfl (lv_at hl 0 rfl) ?_
        refine lv_ldc (v := 1000000) hx hb hown (hts (.constant RX5 91 1000000) (by decide +kernel)) dX5_run_11 ?_
        refine lv_icmp_ge (tgt := 92) hx hb dX5_run_13 (by decide) (fun c_3 => ?_) (fun c_3 => ?_)
        · rw [if_pos c_3] at h
          exact hk M_1 v1_6 v2_6 v3_6 _ _ _ h hP hS (lv_sub hl [0, 1, 2, 3] rfl)
        · rw [if_neg c_3] at h
          refine lv_iconst (v := 0) hx hb dX5_run_16 (by decide) ?_
          refine lv_istore_n (lv' := [(2, .int 0), (3, .int v3_6), (1, .int v1_6), (0, .ref (ad 0))]) hx hb dX5_run_17 rfl hl (by decide) rfl (fun ls hl => ?_)
          refine lv_iconst (v := 0) hx hb dX5_run_18 (by decide) ?_
          refine lv_istore (lv' := [(4, .int 0), (2, .int 0), (3, .int v3_6), (1, .int v1_6), (0, .ref (ad 0))]) hx hb dX5_run_19 hl (by decide) rfl (fun ls hl => ?_)
          have key21 : ∀ (K : Mem → Int32 → Int32 → Int32 → Option (Int32 × Mem)), (∀ (M_4 : Mem) (v1_21 v2_21 v4_21 : Int32) (H : Heap) (locs : List Loc) (ls : Array Slot), K M_4 v1_21 v2_21 v4_21 = some q → va_P (dC, dI) vwCl (cW cI c9 ad M_4) H → va_S (Ac 100 ad) s.heap H locs → lv_has ls 6 [(4, .int v4_21), (2, .int v2_21), (3, .int v3_6), (1, .int v1_21), (0, .ref (ad 0))] → W p l e (headSpec wsX5_run ({ frames := 7, cells := 0, slots := 0, locals := 157 })).room s m ([.ref (ad 0)] : List Value).toArray below meth c H locs 0 0 (MQ below (va_Qi (fun x M' => x = q.1 ∧ M' = q.2) (fun M' t => va_P (dC, dI) vwCl (cW cI c9 ad M') t.heap) (Ac 100 ad)) ([.ref (ad 0)] : List Value).toArray s 0 0 (Ac 100 ad)) (F0 m 86 ls [])) → ∀ (n : Nat), ∀ (M_4 : Mem) (v1_21 v2_21 v4_21 : Int32) (H : Heap) (locs : List Loc) (ls : Array Slot), L_X5_run_21 K v3_6 n M_4 v1_21 v2_21 v4_21 = some q → va_P (dC, dI) vwCl (cW cI c9 ad M_4) H → va_S (Ac 100 ad) s.heap H locs → lv_has ls 6 [(4, .int v4_21), (2, .int v2_21), (3, .int v3_6), (1, .int v1_21), (0, .ref (ad 0))] → W p l e (headSpec wsX5_run ({ frames := 7, cells := 0, slots := 0, locals := 157 })).room s m ([.ref (ad 0)] : List Value).toArray below meth c H locs 0 0 (MQ below (va_Qi (fun x M' => x = q.1 ∧ M' = q.2) (fun M' t => va_P (dC, dI) vwCl (cW cI c9 ad M') t.heap) (Ac 100 ad)) ([.ref (ad 0)] : List Value).toArray s 0 0 (Ac 100 ad)) (F0 m 21 ls []) := by
            intro K hk n
            induction n with
            | zero =>
              intro M_4 v1_21 v2_21 v4_21 H locs ls h
              exact absurd h (by simp [L_X5_run_21])
            | succ n ih =>
              intro M_4 v1_21 v2_21 v4_21 H locs ls h hP hS hl
              have hD := cwl_D hI (enc cI c9 ad M_4)
              simp only [L_X5_run_21] at h
              refine lv_iload hx hb dX5_run_21 (lv_at hl 0 rfl) ?_
              refine lv_aload_n hx hb dX5_run_23 rfl (lv_at hl 4 rfl) ?_
              refine va_get (D := (dC, dI)) (ci := 5) (v := .int (M_4 0 1)) (C := RX5) (T := TX5) (N := 5) hx hb hts jX5_run_X5 hown hKw hP 0 cw_lt rfl 1 (by decide) (hts (.fieldLink RX5 39 "LendThreads" "workCount" "I") (by decide +kernel)) (fun _ h9 => h9) rfl dX5_run_24 ?_
              refine lv_icmp_ge (tgt := 86) hx hb dX5_run_27 (by decide) (fun c_5 => ?_) (fun c_5 => ?_)
              · rw [if_pos c_5] at h
                exact hk M_4 v1_21 v2_21 v4_21 _ _ _ h hP hS (lv_sub hl [0, 1, 2, 3, 4] rfl)
              · rw [if_neg c_5] at h
                refine lv_aload_n hx hb dX5_run_30 rfl (lv_at hl 4 rfl) ?_
                refine lv_aload_n hx hb dX5_run_31 rfl (lv_at hl 4 rfl) ?_
                refine va_get (D := (dC, dI)) (ci := 5) (v := .ref (ad 1)) (C := RX5) (T := TX5) (N := 5) hx hb hts jX5_run_X5 hown hKw hP 0 cw_lt rfl 0 (by decide) (hts (.fieldLink RX5 11 "LendThreads" "works" "[LLendThreads$Work;") (by decide +kernel)) (fun _ h9 => h9) rfl dX5_run_32 ?_
                refine lv_iload hx hb dX5_run_35 (lv_at hl 0 rfl) ?_
                obtain ⟨g_6, h⟩ := gd_some h
                refine va_aldq hx hb hKw hP 1 1 cw_ws rfl (inb_in g_6) dX5_run_37 ?_
                refine W.eq (g2 := F0 m 38 ls [.ref (ad (16 + 7 * v4_21.toNatClampNeg)), .ref (ad 0)]) rfl ?_
                obtain ⟨q_7, hq_7, h⟩ := bi_some h
                refine va_calli (va_runV (As := [.ref (ad (16 + 7 * v4_21.toNatClampNeg))]) (rest := []) ⟨hx, hb, hml, hown, hts⟩ (k_X5_takeTurn l dC dI cI c9 ad hI M_4 (16 + 7 * v4_21.toNatClampNeg) (wok.of (bn_lt (inb_in g_6))) q_7 hq_7) (cwV 1 hts gX5_run_X5_takeTurn rfl rfl rfl (by decide +kernel) ⟨Nat.le_of_ble_eq_true rfl, Nat.le_of_ble_eq_true rfl⟩) (gP_preV hKK hKw hP (va_recv hKw hP (ci := 5) (q0 := 0) rfl cw_lt)) rfl rfl hl.1 rfl (lv_room (Nat.le_of_ble_eq_true rfl)) dX5_run_38 ⟨Nat.zero_le _, Nat.zero_le _⟩) hS (fun q _ h => h) (fun q h => h) (fun r_8 M_9 t H locs ht hvm hw hP hz1 hk1 hS => ?_)
                obtain ⟨h1, h2⟩ := hw
                subst h1 h2
                rw [ht] at hP
                have hD := cwl_D hI (enc cI c9 ad q_7.2)
                refine lv_istore (lv' := [(5, .int q_7.1), (4, .int v4_21), (2, .int v2_21), (3, .int v3_6), (1, .int v1_21), (0, .ref (ad 0))]) hx hb dX5_run_41 hl (by decide) rfl (fun ls hl => ?_)
                refine lv_iload_n hx hb dX5_run_43 rfl (lv_at hl 2 rfl) ?_
                refine lv_if_ne (tgt := 60) hx hb dX5_run_44 (by decide) (fun c_10 => ?_) (fun c_10 => ?_)
                · rw [if_neg c_10] at h
                  refine lv_iconst (v := 1) hx hb dX5_run_60 (by decide) ?_
                  refine lv_goto (tgt := 65) hx hb dX5_run_61 (by decide) ?_
                  refine lv_istore_n (lv' := [(2, .int 1), (5, .int q_7.1), (4, .int v4_21), (3, .int v3_6), (1, .int v1_21), (0, .ref (ad 0))]) hx hb dX5_run_65 rfl hl (by decide) rfl (fun ls hl => ?_)
                  refine lv_iload_n hx hb dX5_run_66 rfl (lv_at hl 4 rfl) ?_
                  refine lv_iload hx hb dX5_run_67 (lv_at hl 1 rfl) ?_
                  refine lv_iconst (v := 2) hx hb dX5_run_69 (by decide) ?_
                  refine lv_icmp_ne (tgt := 77) hx hb dX5_run_70 (by decide) (fun c_11 => ?_) (fun c_11 => ?_)
                  · rw [if_neg c_11] at h
                    refine lv_iconst (v := 0) hx hb dX5_run_77 (by decide) ?_
                    refine lv_iadd hx hb dX5_run_78 ?_
                    refine lv_istore_n (lv' := [(1, .int (v1_21 + 0)), (2, .int 1), (5, .int q_7.1), (4, .int v4_21), (3, .int v3_6), (0, .ref (ad 0))]) hx hb dX5_run_79 rfl hl (by decide) rfl (fun ls hl => ?_)
                    refine lv_iinc (v := v4_21 + 1) (lv' := [(4, .int (v4_21 + 1)), (1, .int (v1_21 + 0)), (2, .int 1), (5, .int q_7.1), (3, .int v3_6), (0, .ref (ad 0))]) hx hb dX5_run_80 hl (k := 3) rfl rfl (by decide) rfl (fun ls hl => ?_)
                    refine lv_goto (tgt := 21) hx hb dX5_run_83 (by decide) ?_
                    exact ih q_7.2 (v1_21 + 0) 1 (v4_21 + 1) _ _ _ h hP hS (lv_sub hl [0, 2, 4, 1, 5] rfl)
                  · rw [if_pos c_11] at h
                    refine lv_iconst (v := 1) hx hb dX5_run_73 (by decide) ?_
                    refine lv_goto (tgt := 78) hx hb dX5_run_74 (by decide) ?_
                    refine lv_iadd hx hb dX5_run_78 ?_
                    refine lv_istore_n (lv' := [(1, .int (v1_21 + 1)), (2, .int 1), (5, .int q_7.1), (4, .int v4_21), (3, .int v3_6), (0, .ref (ad 0))]) hx hb dX5_run_79 rfl hl (by decide) rfl (fun ls hl => ?_)
                    refine lv_iinc (v := v4_21 + 1) (lv' := [(4, .int (v4_21 + 1)), (1, .int (v1_21 + 1)), (2, .int 1), (5, .int q_7.1), (3, .int v3_6), (0, .ref (ad 0))]) hx hb dX5_run_80 hl (k := 3) rfl rfl (by decide) rfl (fun ls hl => ?_)
                    refine lv_goto (tgt := 21) hx hb dX5_run_83 (by decide) ?_
                    exact ih q_7.2 (v1_21 + 1) 1 (v4_21 + 1) _ _ _ h hP hS (lv_sub hl [0, 2, 4, 1, 5] rfl)
                · rw [if_pos c_10] at h
                  refine lv_iload hx hb dX5_run_47 (lv_at hl 0 rfl) ?_
                  refine lv_if_eq (tgt := 64) hx hb dX5_run_49 (by decide) (fun c_12 => ?_) (fun c_12 => ?_)
                  · rw [if_pos c_12] at h
                    refine lv_iconst (v := 0) hx hb dX5_run_64 (by decide) ?_
                    refine lv_istore_n (lv' := [(2, .int 0), (5, .int q_7.1), (4, .int v4_21), (3, .int v3_6), (1, .int v1_21), (0, .ref (ad 0))]) hx hb dX5_run_65 rfl hl (by decide) rfl (fun ls hl => ?_)
                    refine lv_iload_n hx hb dX5_run_66 rfl (lv_at hl 4 rfl) ?_
                    refine lv_iload hx hb dX5_run_67 (lv_at hl 1 rfl) ?_
                    refine lv_iconst (v := 2) hx hb dX5_run_69 (by decide) ?_
                    refine lv_icmp_ne (tgt := 77) hx hb dX5_run_70 (by decide) (fun c_13 => ?_) (fun c_13 => ?_)
                    · rw [if_neg c_13] at h
                      refine lv_iconst (v := 0) hx hb dX5_run_77 (by decide) ?_
                      refine lv_iadd hx hb dX5_run_78 ?_
                      refine lv_istore_n (lv' := [(1, .int (v1_21 + 0)), (2, .int 0), (5, .int q_7.1), (4, .int v4_21), (3, .int v3_6), (0, .ref (ad 0))]) hx hb dX5_run_79 rfl hl (by decide) rfl (fun ls hl => ?_)
                      refine lv_iinc (v := v4_21 + 1) (lv' := [(4, .int (v4_21 + 1)), (1, .int (v1_21 + 0)), (2, .int 0), (5, .int q_7.1), (3, .int v3_6), (0, .ref (ad 0))]) hx hb dX5_run_80 hl (k := 3) rfl rfl (by decide) rfl (fun ls hl => ?_)
                      refine lv_goto (tgt := 21) hx hb dX5_run_83 (by decide) ?_
                      exact ih q_7.2 (v1_21 + 0) 0 (v4_21 + 1) _ _ _ h hP hS (lv_sub hl [0, 2, 4, 1, 5] rfl)
                    · rw [if_pos c_13] at h
                      refine lv_iconst (v := 1) hx hb dX5_run_73 (by decide) ?_
                      refine lv_goto (tgt := 78) hx hb dX5_run_74 (by decide) ?_
                      refine lv_iadd hx hb dX5_run_78 ?_
                      refine lv_istore_n (lv' := [(1, .int (v1_21 + 1)), (2, .int 0), (5, .int q_7.1), (4, .int v4_21), (3, .int v3_6), (0, .ref (ad 0))]) hx hb dX5_run_79 rfl hl (by decide) rfl (fun ls hl => ?_)
                      refine lv_iinc (v := v4_21 + 1) (lv' := [(4, .int (v4_21 + 1)), (1, .int (v1_21 + 1)), (2, .int 0), (5, .int q_7.1), (3, .int v3_6), (0, .ref (ad 0))]) hx hb dX5_run_80 hl (k := 3) rfl rfl (by decide) rfl (fun ls hl => ?_)
                      refine lv_goto (tgt := 21) hx hb dX5_run_83 (by decide) ?_
                      exact ih q_7.2 (v1_21 + 1) 0 (v4_21 + 1) _ _ _ h hP hS (lv_sub hl [0, 2, 4, 1, 5] rfl)
                  · rw [if_neg c_12] at h
                    refine lv_iload hx hb dX5_run_52 (lv_at hl 0 rfl) ?_
                    obtain ⟨q_14, hq_14, h⟩ := bi_some h
                    refine vp_callSi (va_Run.run (va_runS (As := [.int q_7.1]) (rest := []) ⟨hx, hb, hml, hown, hts⟩ (k_X5_isWaiting l dC dI cI c9 ad hI q_7.2 q_7.1 q_14 hq_14) (va_cwS 1 hts gX5_run_X5_isWaiting rfl rfl rfl (by decide +kernel) ⟨Nat.le_of_ble_eq_true rfl, Nat.le_of_ble_eq_true rfl⟩) (gP_preS hKK hKw hP) rfl rfl hl.1 rfl (lv_room (Nat.le_of_ble_eq_true rfl)) dX5_run_54 ⟨Nat.zero_le _, Nat.zero_le _⟩)) (fun r_15 hr_15 => ?_)
                    replace hr_15 := hr_15.symm
                    subst hr_15
                    refine lv_if_ne (tgt := 64) hx hb dX5_run_57 (by decide) (fun c_16 => ?_) (fun c_16 => ?_)
                    · rw [if_neg c_16] at h
                      refine lv_iconst (v := 0) hx hb dX5_run_64 (by decide) ?_
                      refine lv_istore_n (lv' := [(2, .int 0), (5, .int q_7.1), (4, .int v4_21), (3, .int v3_6), (1, .int v1_21), (0, .ref (ad 0))]) hx hb dX5_run_65 rfl hl (by decide) rfl (fun ls hl => ?_)
                      refine lv_iload_n hx hb dX5_run_66 rfl (lv_at hl 4 rfl) ?_
                      refine lv_iload hx hb dX5_run_67 (lv_at hl 1 rfl) ?_
                      refine lv_iconst (v := 2) hx hb dX5_run_69 (by decide) ?_
                      refine lv_icmp_ne (tgt := 77) hx hb dX5_run_70 (by decide) (fun c_17 => ?_) (fun c_17 => ?_)
                      · rw [if_neg c_17] at h
                        refine lv_iconst (v := 0) hx hb dX5_run_77 (by decide) ?_
                        refine lv_iadd hx hb dX5_run_78 ?_
                        refine lv_istore_n (lv' := [(1, .int (v1_21 + 0)), (2, .int 0), (5, .int q_7.1), (4, .int v4_21), (3, .int v3_6), (0, .ref (ad 0))]) hx hb dX5_run_79 rfl hl (by decide) rfl (fun ls hl => ?_)
                        refine lv_iinc (v := v4_21 + 1) (lv' := [(4, .int (v4_21 + 1)), (1, .int (v1_21 + 0)), (2, .int 0), (5, .int q_7.1), (3, .int v3_6), (0, .ref (ad 0))]) hx hb dX5_run_80 hl (k := 3) rfl rfl (by decide) rfl (fun ls hl => ?_)
                        refine lv_goto (tgt := 21) hx hb dX5_run_83 (by decide) ?_
                        exact ih q_7.2 (v1_21 + 0) 0 (v4_21 + 1) _ _ _ h hP hS (lv_sub hl [0, 2, 4, 1, 5] rfl)
                      · rw [if_pos c_17] at h
                        refine lv_iconst (v := 1) hx hb dX5_run_73 (by decide) ?_
                        refine lv_goto (tgt := 78) hx hb dX5_run_74 (by decide) ?_
                        refine lv_iadd hx hb dX5_run_78 ?_
                        refine lv_istore_n (lv' := [(1, .int (v1_21 + 1)), (2, .int 0), (5, .int q_7.1), (4, .int v4_21), (3, .int v3_6), (0, .ref (ad 0))]) hx hb dX5_run_79 rfl hl (by decide) rfl (fun ls hl => ?_)
                        refine lv_iinc (v := v4_21 + 1) (lv' := [(4, .int (v4_21 + 1)), (1, .int (v1_21 + 1)), (2, .int 0), (5, .int q_7.1), (3, .int v3_6), (0, .ref (ad 0))]) hx hb dX5_run_80 hl (k := 3) rfl rfl (by decide) rfl (fun ls hl => ?_)
                        refine lv_goto (tgt := 21) hx hb dX5_run_83 (by decide) ?_
                        exact ih q_7.2 (v1_21 + 1) 0 (v4_21 + 1) _ _ _ h hP hS (lv_sub hl [0, 2, 4, 1, 5] rfl)
                    · rw [if_pos c_16] at h
                      refine lv_iconst (v := 1) hx hb dX5_run_60 (by decide) ?_
                      refine lv_goto (tgt := 65) hx hb dX5_run_61 (by decide) ?_
                      refine lv_istore_n (lv' := [(2, .int 1), (5, .int q_7.1), (4, .int v4_21), (3, .int v3_6), (1, .int v1_21), (0, .ref (ad 0))]) hx hb dX5_run_65 rfl hl (by decide) rfl (fun ls hl => ?_)
                      refine lv_iload_n hx hb dX5_run_66 rfl (lv_at hl 4 rfl) ?_
                      refine lv_iload hx hb dX5_run_67 (lv_at hl 1 rfl) ?_
                      refine lv_iconst (v := 2) hx hb dX5_run_69 (by decide) ?_
                      refine lv_icmp_ne (tgt := 77) hx hb dX5_run_70 (by decide) (fun c_18 => ?_) (fun c_18 => ?_)
                      · rw [if_neg c_18] at h
                        refine lv_iconst (v := 0) hx hb dX5_run_77 (by decide) ?_
                        refine lv_iadd hx hb dX5_run_78 ?_
                        refine lv_istore_n (lv' := [(1, .int (v1_21 + 0)), (2, .int 1), (5, .int q_7.1), (4, .int v4_21), (3, .int v3_6), (0, .ref (ad 0))]) hx hb dX5_run_79 rfl hl (by decide) rfl (fun ls hl => ?_)
                        refine lv_iinc (v := v4_21 + 1) (lv' := [(4, .int (v4_21 + 1)), (1, .int (v1_21 + 0)), (2, .int 1), (5, .int q_7.1), (3, .int v3_6), (0, .ref (ad 0))]) hx hb dX5_run_80 hl (k := 3) rfl rfl (by decide) rfl (fun ls hl => ?_)
                        refine lv_goto (tgt := 21) hx hb dX5_run_83 (by decide) ?_
                        exact ih q_7.2 (v1_21 + 0) 1 (v4_21 + 1) _ _ _ h hP hS (lv_sub hl [0, 2, 4, 1, 5] rfl)
                      · rw [if_pos c_18] at h
                        refine lv_iconst (v := 1) hx hb dX5_run_73 (by decide) ?_
                        refine lv_goto (tgt := 78) hx hb dX5_run_74 (by decide) ?_
                        refine lv_iadd hx hb dX5_run_78 ?_
                        refine lv_istore_n (lv' := [(1, .int (v1_21 + 1)), (2, .int 1), (5, .int q_7.1), (4, .int v4_21), (3, .int v3_6), (0, .ref (ad 0))]) hx hb dX5_run_79 rfl hl (by decide) rfl (fun ls hl => ?_)
                        refine lv_iinc (v := v4_21 + 1) (lv' := [(4, .int (v4_21 + 1)), (1, .int (v1_21 + 1)), (2, .int 1), (5, .int q_7.1), (3, .int v3_6), (0, .ref (ad 0))]) hx hb dX5_run_80 hl (k := 3) rfl rfl (by decide) rfl (fun ls hl => ?_)
                        refine lv_goto (tgt := 21) hx hb dX5_run_83 (by decide) ?_
                        exact ih q_7.2 (v1_21 + 1) 1 (v4_21 + 1) _ _ _ h hP hS (lv_sub hl [0, 2, 4, 1, 5] rfl)
          refine key21 _ (fun M_4 v1_21 v2_21 v4_21 H locs ls h hP hS hl => ?_) 4000 M_1 v1_6 0 0 _ _ _ h hP hS (lv_sub hl [0, 1, 2, 3, 4] rfl)
          have hD := cwl_D hI (enc cI c9 ad M_4)
          try dsimp only at h
          refine lv_iinc (v := v3_6 + 1) (lv' := [(3, .int (v3_6 + 1)), (4, .int v4_21), (2, .int v2_21), (1, .int v1_21), (0, .ref (ad 0))]) hx hb dX5_run_86 hl (k := 2) rfl rfl (by decide) rfl (fun ls hl => ?_)
          refine lv_goto (tgt := 6) hx hb dX5_run_89 (by decide) ?_
          exact ih M_4 v1_21 v2_21 (v3_6 + 1) _ _ _ h hP hS (lv_sub hl [0, 2, 3, 4] rfl)
  refine key6 _ (fun M_1 v1_6 v2_6 v3_6 H locs ls h hP hS hl => ?_) 1000002 M 0 1 0 _ _ _ h hP hS (lv_sub hl [0, 1, 2, 3] rfl)
  have hD := cwl_D hI (enc cI c9 ad M_1)
  try dsimp only at h
  refine lv_iload_n hx hb dX5_run_92 rfl (lv_at hl 2 rfl) ?_
  replace h := Option.some.inj h
  subst h
  exact W.iret (v := v1_6) hx hb hr (fun t ht hW => ⟨⟨_, _, rfl, ⟨rfl, rfl⟩, (show va_P (dC, dI) vwCl (cW cI c9 ad M_1) t.heap by rw [ht]; exact hP)⟩, hS.F ht⟩) hS.2.2 dX5_run_93
theorem jX5_ring_X5 : ∀ w ∈ u_ws RX5 TX5 5, w ∈ wsX5_ring := by decide +kernel
def L_X5_ring_2 (K : Mem → Int32 → Option (Int32 × Mem))  : Nat → Mem → Int32 → Option (Int32 × Mem)
  | 0, _, _ => none
  | n + 1, M_1, v1_2 => (if (M_1 0 1) ≤ v1_2 then K M_1 v1_2 else bi (F_X5_greatestInRingOf M_1 v1_2) fun q_3 => (if q_3 = (-1) then L_X5_ring_2 K  n M_1 (v1_2 + 1) else gd (inb q_3 12) <| bi (F_X5_undo M_1 (16 + 7 * q_3.toNatClampNeg) 3) fun q_7 => some (q_3, q_7)))
def F_X5_ring (M : Mem) : Option (Int32 × Mem) :=
  L_X5_ring_2 (fun M_1 v1_2 => some ((-1), M_1))  4000 M 0
set_option maxHeartbeats 4000000 in
set_option maxRecDepth 100000 in
theorem k_X5_ring (l : Launch) (dC : Nat → ClassId) (dI : Nat → Nat → Nat) (cI c9 : ClassId) (ad : Nat → Nat) (hI : Inj 100 ad) (M : Mem) (q : Int32 × Mem) (h : F_X5_ring M  = some q) : Met l yX5_ring wsX5_ring ({ frames := 5, cells := 0, slots := 0, locals := 113 }) (gP dC dI cI c9 ad M [.ref (ad 0)]) (va_Qi (fun x M' => x = q.1 ∧ M' = q.2) (fun M' t => va_P (dC, dI) vwCl (cW cI c9 ad M') t.heap) (Ac 100 ad)) 0 0 (Ac 100 ad) := by
  refine Met.ofW (cc := cX5_ring) (maxL := 3) (ret := (some .int)) (by decide) rfl ?_
  intro p e s m args below meth c s₁ B hml hv
  obtain ⟨rfl, hP, hKK, hKw⟩ := hv
  have hx := B.exec
  have hb := B.bytes
  have hr := B.returns
  have hts := atoms_spec (ws := wsX5_ring) B.pre
  have hown : s.vm.findClass RX5 = some m.cls := findClass_of_methodNamed B.named
  have hlocks := B.notSynchronized
  have hD := cwl_D hI (enc cI c9 ad M)
  have hS : va_S (Ac 100 ad) s.heap s.heap [] := va_S.rf
  have hl := lv_entry ([.ref (ad 0)]) (n := 3) (Nat.le_of_ble_eq_true rfl)
  rw [lg_entry_eq]
  generalize (lg_sl ([.ref (ad 0)]) ++ List.replicate (3 - (lg_sl ([.ref (ad 0)])).length) Slot.unset).toArray = ls at hl ⊢
  have hl : lv_has ls 3 [(0, .ref (ad 0))] := hl
  unfold F_X5_ring at h
  refine lv_iconst (v := 0) hx hb dX5_ring_0 (by decide) ?_
  refine lv_istore_n (lv' := [(1, .int 0), (0, .ref (ad 0))]) hx hb dX5_ring_1 rfl hl (by decide) rfl (fun ls hl => ?_)
  have key2 : ∀ (K : Mem → Int32 → Option (Int32 × Mem)), (∀ (M_1 : Mem) (v1_2 : Int32) (H : Heap) (locs : List Loc) (ls : Array Slot), K M_1 v1_2 = some q → va_P (dC, dI) vwCl (cW cI c9 ad M_1) H → va_S (Ac 100 ad) s.heap H locs → lv_has ls 3 [(1, .int v1_2), (0, .ref (ad 0))] → W p l e (headSpec wsX5_ring ({ frames := 5, cells := 0, slots := 0, locals := 113 })).room s m ([.ref (ad 0)] : List Value).toArray below meth c H locs 0 0 (MQ below (va_Qi (fun x M' => x = q.1 ∧ M' = q.2) (fun M' t => va_P (dC, dI) vwCl (cW cI c9 ad M') t.heap) (Ac 100 ad)) ([.ref (ad 0)] : List Value).toArray s 0 0 (Ac 100 ad)) (F0 m 40 ls [])) → ∀ (n : Nat), ∀ (M_1 : Mem) (v1_2 : Int32) (H : Heap) (locs : List Loc) (ls : Array Slot), L_X5_ring_2 K  n M_1 v1_2 = some q → va_P (dC, dI) vwCl (cW cI c9 ad M_1) H → va_S (Ac 100 ad) s.heap H locs → lv_has ls 3 [(1, .int v1_2), (0, .ref (ad 0))] → W p l e (headSpec wsX5_ring ({ frames := 5, cells := 0, slots := 0, locals := 113 })).room s m ([.ref (ad 0)] : List Value).toArray below meth c H locs 0 0 (MQ below (va_Qi (fun x M' => x = q.1 ∧ M' = q.2) (fun M' t => va_P (dC, dI) vwCl (cW cI c9 ad M') t.heap) (Ac 100 ad)) ([.ref (ad 0)] : List Value).toArray s 0 0 (Ac 100 ad)) (F0 m 2 ls []) := by
    intro K hk n
    induction n with
    | zero =>
      intro M_1 v1_2 H locs ls h
      exact absurd h (by simp [L_X5_ring_2])
    | succ n ih =>
      intro M_1 v1_2 H locs ls h hP hS hl
      have hD := cwl_D hI (enc cI c9 ad M_1)
      simp only [L_X5_ring_2] at h
      refine lv_iload_n hx hb dX5_ring_2 rfl (lv_at hl 0 rfl) ?_
      refine lv_aload_n hx hb dX5_ring_3 rfl (lv_at hl 1 rfl) ?_
      refine va_get (D := (dC, dI)) (ci := 5) (v := .int (M_1 0 1)) (C := RX5) (T := TX5) (N := 5) hx hb hts jX5_ring_X5 hown hKw hP 0 cw_lt rfl 1 (by decide) (hts (.fieldLink RX5 39 "LendThreads" "workCount" "I") (by decide +kernel)) (fun _ h9 => h9) rfl dX5_ring_4 ?_
      refine lv_icmp_ge (tgt := 40) hx hb dX5_ring_7 (by decide) (fun c_2 => ?_) (fun c_2 => ?_)
      · rw [if_pos c_2] at h
        exact hk M_1 v1_2 _ _ _ h hP hS (lv_sub hl [0, 1] rfl)
      · rw [if_neg c_2] at h
        refine lv_aload_n hx hb dX5_ring_10 rfl (lv_at hl 1 rfl) ?_
        refine lv_iload_n hx hb dX5_ring_11 rfl (lv_at hl 0 rfl) ?_
        obtain ⟨q_3, hq_3, h⟩ := bi_some h
        refine vp_callSi (va_Run.run (va_runV (As := [.int v1_2]) (rest := []) ⟨hx, hb, hml, hown, hts⟩ (k_X5_greatestInRingOf l dC dI cI c9 ad hI M_1 v1_2 q_3 hq_3) (cwV 1 hts gX5_ring_X5_greatestInRingOf rfl rfl rfl (by decide +kernel) ⟨Nat.le_of_ble_eq_true rfl, Nat.le_of_ble_eq_true rfl⟩) (gP_preV hKK hKw hP (va_recv hKw hP (ci := 5) (q0 := 0) rfl cw_lt)) rfl rfl hl.1 rfl (lv_room (Nat.le_of_ble_eq_true rfl)) dX5_ring_12 ⟨Nat.zero_le _, Nat.zero_le _⟩)) (fun r_4 hr_4 => ?_)
        replace hr_4 := hr_4.symm
        subst hr_4
        refine lv_istore_n (lv' := [(2, .int q_3), (1, .int v1_2), (0, .ref (ad 0))]) hx hb dX5_ring_15 rfl hl (by decide) rfl (fun ls hl => ?_)
        refine lv_iload_n hx hb dX5_ring_16 rfl (lv_at hl 0 rfl) ?_
        refine lv_iconst (v := (-1)) hx hb dX5_ring_17 (by decide) ?_
        refine lv_icmp_eq (tgt := 34) hx hb dX5_ring_18 (by decide) (fun c_5 => ?_) (fun c_5 => ?_)
        · rw [if_pos c_5] at h
          refine lv_iinc (v := v1_2 + 1) (lv' := [(1, .int (v1_2 + 1)), (2, .int q_3), (0, .ref (ad 0))]) hx hb dX5_ring_34 hl (k := 1) rfl rfl (by decide) rfl (fun ls hl => ?_)
          refine lv_goto (tgt := 2) hx hb dX5_ring_37 (by decide) ?_
          exact ih M_1 (v1_2 + 1) _ _ _ h hP hS (lv_sub hl [0, 2] rfl)
        · rw [if_neg c_5] at h
          refine lv_aload_n hx hb dX5_ring_21 rfl (lv_at hl 2 rfl) ?_
          refine lv_aload_n hx hb dX5_ring_22 rfl (lv_at hl 2 rfl) ?_
          refine va_get (D := (dC, dI)) (ci := 5) (v := .ref (ad 1)) (C := RX5) (T := TX5) (N := 5) hx hb hts jX5_ring_X5 hown hKw hP 0 cw_lt rfl 0 (by decide) (hts (.fieldLink RX5 11 "LendThreads" "works" "[LLendThreads$Work;") (by decide +kernel)) (fun _ h9 => h9) rfl dX5_ring_23 ?_
          refine lv_iload_n hx hb dX5_ring_26 rfl (lv_at hl 0 rfl) ?_
          obtain ⟨g_6, h⟩ := gd_some h
          refine va_aldq hx hb hKw hP 1 1 cw_ws rfl (inb_in g_6) dX5_ring_27 ?_
          refine W.eq (g2 := F0 m 28 ls [.ref (ad (16 + 7 * q_3.toNatClampNeg)), .ref (ad 0)]) rfl ?_
          refine lv_iconst (v := 3) hx hb dX5_ring_28 (by decide) ?_
          obtain ⟨q_7, hq_7, h⟩ := bi_some h
          refine va_callv (va_runV (As := [.ref (ad (16 + 7 * q_3.toNatClampNeg)), .int 3]) (rest := []) ⟨hx, hb, hml, hown, hts⟩ (k_X5_undo l dC dI cI c9 ad hI M_1 (16 + 7 * q_3.toNatClampNeg) (wok.of (bn_lt (inb_in g_6))) 3 q_7 hq_7) (cwV 2 hts gX5_ring_X5_undo rfl rfl rfl (by decide +kernel) ⟨Nat.le_of_ble_eq_true rfl, Nat.le_of_ble_eq_true rfl⟩) (gP_preV hKK hKw hP (va_recv hKw hP (ci := 5) (q0 := 0) rfl cw_lt)) rfl rfl hl.1 rfl (lv_room (Nat.le_of_ble_eq_true rfl)) dX5_ring_29 ⟨Nat.zero_le _, Nat.zero_le _⟩) hS (fun q _ h => h) (fun q h => h) (fun M_9 t H locs ht hvm hw hP hz1 hk1 hS => ?_)
          replace hw := hw.symm
          subst hw
          rw [ht] at hP
          have hD := cwl_D hI (enc cI c9 ad q_7)
          refine lv_iload_n hx hb dX5_ring_32 rfl (lv_at hl 0 rfl) ?_
          replace h := Option.some.inj h
          subst h
          exact W.iret (v := q_3) hx hb hr (fun t ht hW => ⟨⟨_, _, rfl, ⟨rfl, rfl⟩, (show va_P (dC, dI) vwCl (cW cI c9 ad q_7) t.heap by rw [ht]; exact hP)⟩, hS.F ht⟩) hS.2.2 dX5_ring_33
  refine key2 _ (fun M_1 v1_2 H locs ls h hP hS hl => ?_) 4000 M 0 _ _ _ h hP hS (lv_sub hl [0, 1] rfl)
  have hD := cwl_D hI (enc cI c9 ad M_1)
  try dsimp only at h
  refine lv_iconst (v := (-1)) hx hb dX5_ring_40 (by decide) ?_
  replace h := Option.some.inj h
  subst h
  exact W.iret (v := (-1)) hx hb hr (fun t ht hW => ⟨⟨_, _, rfl, ⟨rfl, rfl⟩, (show va_P (dC, dI) vwCl (cW cI c9 ad M_1) t.heap by rw [ht]; exact hP)⟩, hS.F ht⟩) hS.2.2 dX5_ring_41
theorem jX5_interrupt_X4 : ∀ w ∈ u_ws RX4 TX4 12, w ∈ wsX5_interrupt := by decide +kernel
def F_X5_interrupt (M : Mem) (p1 : Int32) : Option (Int32 × Mem) :=
  bi (F_X5_find M p1) fun q_1 => match q_1 with | none => some ((-1), M) | some w_3 => (if (M w_3 5) = 0 then bi (F_X5_isWaiting M (M w_3 11)) fun q_5 => (if q_5 = 0 then some ((-3), M) else bi (F_X5_undo M w_3 4) fun q_8 => some (1, q_8)) else some ((-3), M))
set_option maxHeartbeats 4000000 in
set_option maxRecDepth 100000 in
theorem k_X5_interrupt (l : Launch) (dC : Nat → ClassId) (dI : Nat → Nat → Nat) (cI c9 : ClassId) (ad : Nat → Nat) (hI : Inj 100 ad) (M : Mem) (p1 : Int32) (q : Int32 × Mem) (h : F_X5_interrupt M p1 = some q) : Met l yX5_interrupt wsX5_interrupt ({ frames := 5, cells := 0, slots := 0, locals := 113 }) (gP dC dI cI c9 ad M [.ref (ad 0), .int p1]) (va_Qi (fun x M' => x = q.1 ∧ M' = q.2) (fun M' t => va_P (dC, dI) vwCl (cW cI c9 ad M') t.heap) (Ac 100 ad)) 0 0 (Ac 100 ad) := by
  refine Met.ofW (cc := cX5_interrupt) (maxL := 3) (ret := (some .int)) (by decide) rfl ?_
  intro p e s m args below meth c s₁ B hml hv
  obtain ⟨rfl, hP, hKK, hKw⟩ := hv
  have hx := B.exec
  have hb := B.bytes
  have hr := B.returns
  have hts := atoms_spec (ws := wsX5_interrupt) B.pre
  have hown : s.vm.findClass RX5 = some m.cls := findClass_of_methodNamed B.named
  have hlocks := B.notSynchronized
  have hD := cwl_D hI (enc cI c9 ad M)
  have hS : va_S (Ac 100 ad) s.heap s.heap [] := va_S.rf
  have hl := lv_entry ([.ref (ad 0), .int p1]) (n := 3) (Nat.le_of_ble_eq_true rfl)
  rw [lg_entry_eq]
  generalize (lg_sl ([.ref (ad 0), .int p1]) ++ List.replicate (3 - (lg_sl ([.ref (ad 0), .int p1])).length) Slot.unset).toArray = ls at hl ⊢
  have hl : lv_has ls 3 [(0, .ref (ad 0)), (1, .int p1)] := hl
  unfold F_X5_interrupt at h
  refine lv_aload_n hx hb dX5_interrupt_0 rfl (lv_at hl 0 rfl) ?_
  refine lv_iload_n hx hb dX5_interrupt_1 rfl (lv_at hl 1 rfl) ?_
  obtain ⟨q_1, hq_1, h⟩ := bi_some h
  refine va_csq (va_Run.run (va_runV (As := [.int p1]) (rest := []) ⟨hx, hb, hml, hown, hts⟩ (k_X5_find l dC dI cI c9 ad hI M p1 q_1 hq_1) (cwV 1 hts gX5_interrupt_X5_find rfl rfl rfl (by decide +kernel) ⟨Nat.le_of_ble_eq_true rfl, Nat.le_of_ble_eq_true rfl⟩) (gP_preV hKK hKw hP (va_recv hKw hP (ci := 5) (q0 := 0) rfl cw_lt)) rfl rfl hl.1 rfl (lv_room (Nat.le_of_ble_eq_true rfl)) dX5_interrupt_2 ⟨Nat.zero_le _, Nat.zero_le _⟩)) (fun r_2 hr_2 => ?_)
  subst hr_2
  cases q_1 with
  | none =>
    dsimp only at h
    refine W.eq (g2 := F0 m 5 ls [.null]) rfl ?_
    refine lv_astore_nN (lv' := [(2, .null), (0, .ref (ad 0)), (1, .int p1)]) hx hb dX5_interrupt_5 rfl hl (by decide) rfl (fun ls hl => ?_)
    refine lv_aload_nN hx hb dX5_interrupt_6 rfl (lv_at hl 0 rfl) ?_
    refine lv_ifnonnullN hx hb dX5_interrupt_7 ?_
    refine lv_iconst (v := (-1)) hx hb dX5_interrupt_10 (by decide) ?_
    replace h := Option.some.inj h
    subst h
    exact W.iret (v := (-1)) hx hb hr (fun t ht hW => ⟨⟨_, _, rfl, ⟨rfl, rfl⟩, (show va_P (dC, dI) vwCl (cW cI c9 ad M) t.heap by rw [ht]; exact hP)⟩, hS.F ht⟩) hS.2.2 dX5_interrupt_11
  | some w_3 =>
    dsimp only at h
    have hw_3 : wok w_3 := find_wok hq_1
    refine W.eq (g2 := F0 m 5 ls [.ref (ad w_3)]) rfl ?_
    refine lv_astore_n (lv' := [(2, .ref (ad w_3)), (0, .ref (ad 0)), (1, .int p1)]) hx hb dX5_interrupt_5 rfl hl (by decide) rfl (fun ls hl => ?_)
    refine lv_aload_n hx hb dX5_interrupt_6 rfl (lv_at hl 0 rfl) ?_
    refine lv_ifnonnull (tgt := 12) hx hb dX5_interrupt_7 (by decide) ?_
    refine lv_aload_n hx hb dX5_interrupt_12 rfl (lv_at hl 0 rfl) ?_
    refine va_getN (D := (dC, dI)) (ci := 4) (v := .int (M w_3 5)) (C := RX4) (T := TX4) (N := 12) hx hb hts jX5_interrupt_X4 hown hKw hP w_3 (cw_work (wok.lt hw_3) (wok.k hw_3)) rfl 5 (by decide) (va_Nw.use rfl (hKK.2.2 (.fieldLinkNest RX5 103 RX4 "state" "I" RX5) (by decide +kernel))) (fun _ h9 => h9) rfl dX5_interrupt_13 ?_
    refine lv_if_ne (tgt := 29) hx hb dX5_interrupt_16 (by decide) (fun c_4 => ?_) (fun c_4 => ?_)
    · rw [if_neg c_4] at h
      refine lv_bipush (v := (-3)) hx hb dX5_interrupt_29 (by decide) ?_
      replace h := Option.some.inj h
      subst h
      exact W.iret (v := (-3)) hx hb hr (fun t ht hW => ⟨⟨_, _, rfl, ⟨rfl, rfl⟩, (show va_P (dC, dI) vwCl (cW cI c9 ad M) t.heap by rw [ht]; exact hP)⟩, hS.F ht⟩) hS.2.2 dX5_interrupt_31
    · rw [if_pos c_4] at h
      refine lv_aload_n hx hb dX5_interrupt_19 rfl (lv_at hl 0 rfl) ?_
      refine va_getN (D := (dC, dI)) (ci := 4) (v := .int (M w_3 11)) (C := RX4) (T := TX4) (N := 12) hx hb hts jX5_interrupt_X4 hown hKw hP w_3 (cw_work (wok.lt hw_3) (wok.k hw_3)) rfl 11 (by decide) (va_Nw.use rfl (hKK.2.2 (.fieldLinkNest RX5 106 RX4 "latest" "I" RX5) (by decide +kernel))) (fun _ h9 => h9) rfl dX5_interrupt_20 ?_
      obtain ⟨q_5, hq_5, h⟩ := bi_some h
      refine vp_callSi (va_Run.run (va_runS (As := [.int (M w_3 11)]) (rest := []) ⟨hx, hb, hml, hown, hts⟩ (k_X5_isWaiting l dC dI cI c9 ad hI M (M w_3 11) q_5 hq_5) (va_cwS 1 hts gX5_interrupt_X5_isWaiting rfl rfl rfl (by decide +kernel) ⟨Nat.le_of_ble_eq_true rfl, Nat.le_of_ble_eq_true rfl⟩) (gP_preS hKK hKw hP) rfl rfl hl.1 rfl (lv_room (Nat.le_of_ble_eq_true rfl)) dX5_interrupt_23 ⟨Nat.zero_le _, Nat.zero_le _⟩)) (fun r_6 hr_6 => ?_)
      replace hr_6 := hr_6.symm
      subst hr_6
      refine lv_if_ne (tgt := 32) hx hb dX5_interrupt_26 (by decide) (fun c_7 => ?_) (fun c_7 => ?_)
      · rw [if_neg c_7] at h
        refine lv_aload_n hx hb dX5_interrupt_32 rfl (lv_at hl 1 rfl) ?_
        refine lv_aload_n hx hb dX5_interrupt_33 rfl (lv_at hl 0 rfl) ?_
        refine lv_iconst (v := 4) hx hb dX5_interrupt_34 (by decide) ?_
        obtain ⟨q_8, hq_8, h⟩ := bi_some h
        refine va_callv (va_runV (As := [.ref (ad w_3), .int 4]) (rest := []) ⟨hx, hb, hml, hown, hts⟩ (k_X5_undo l dC dI cI c9 ad hI M w_3 hw_3 4 q_8 hq_8) (cwV 2 hts gX5_interrupt_X5_undo rfl rfl rfl (by decide +kernel) ⟨Nat.le_of_ble_eq_true rfl, Nat.le_of_ble_eq_true rfl⟩) (gP_preV hKK hKw hP (va_recv hKw hP (ci := 5) (q0 := 0) rfl cw_lt)) rfl rfl hl.1 rfl (lv_room (Nat.le_of_ble_eq_true rfl)) dX5_interrupt_35 ⟨Nat.zero_le _, Nat.zero_le _⟩) hS (fun q _ h => h) (fun q h => h) (fun M_10 t H locs ht hvm hw hP hz1 hk1 hS => ?_)
        replace hw := hw.symm
        subst hw
        rw [ht] at hP
        have hD := cwl_D hI (enc cI c9 ad q_8)
        refine lv_iconst (v := 1) hx hb dX5_interrupt_38 (by decide) ?_
        replace h := Option.some.inj h
        subst h
        exact W.iret (v := 1) hx hb hr (fun t ht hW => ⟨⟨_, _, rfl, ⟨rfl, rfl⟩, (show va_P (dC, dI) vwCl (cW cI c9 ad q_8) t.heap by rw [ht]; exact hP)⟩, hS.F ht⟩) hS.2.2 dX5_interrupt_39
      · rw [if_pos c_7] at h
        refine lv_bipush (v := (-3)) hx hb dX5_interrupt_29 (by decide) ?_
        replace h := Option.some.inj h
        subst h
        exact W.iret (v := (-3)) hx hb hr (fun t ht hW => ⟨⟨_, _, rfl, ⟨rfl, rfl⟩, (show va_P (dC, dI) vwCl (cW cI c9 ad M) t.heap by rw [ht]; exact hP)⟩, hS.F ht⟩) hS.2.2 dX5_interrupt_31
theorem jX5_again_X4 : ∀ w ∈ u_ws RX4 TX4 12, w ∈ wsX5_again := by decide +kernel
def F_X5_again (M : Mem) (p1 : Int32) : Option (Int32 × Mem) :=
  bi (F_X5_find M p1) fun q_1 => match q_1 with | none => some ((-1), M) | some w_3 => (if (M w_3 5) = 2 then bi (F_X4_beginAgain M w_3) fun q_5 => some ((q_5 w_3 9), q_5) else (if (M w_3 5) = 3 then bi (F_X4_beginAgain M w_3) fun q_9 => some ((q_9 w_3 9), q_9) else (if (M w_3 5) = 4 then bi (F_X4_beginAgain M w_3) fun q_13 => some ((q_13 w_3 9), q_13) else some ((-3), M))))
set_option maxHeartbeats 4000000 in
set_option maxRecDepth 100000 in
theorem k_X5_again (l : Launch) (dC : Nat → ClassId) (dI : Nat → Nat → Nat) (cI c9 : ClassId) (ad : Nat → Nat) (hI : Inj 100 ad) (M : Mem) (p1 : Int32) (q : Int32 × Mem) (h : F_X5_again M p1 = some q) : Met l yX5_again wsX5_again ({ frames := 2, cells := 0, slots := 0, locals := 42 }) (gP dC dI cI c9 ad M [.ref (ad 0), .int p1]) (va_Qi (fun x M' => x = q.1 ∧ M' = q.2) (fun M' t => va_P (dC, dI) vwCl (cW cI c9 ad M') t.heap) (Ac 100 ad)) 0 0 (Ac 100 ad) := by
  refine Met.ofW (cc := cX5_again) (maxL := 3) (ret := (some .int)) (by decide) rfl ?_
  intro p e s m args below meth c s₁ B hml hv
  obtain ⟨rfl, hP, hKK, hKw⟩ := hv
  have hx := B.exec
  have hb := B.bytes
  have hr := B.returns
  have hts := atoms_spec (ws := wsX5_again) B.pre
  have hown : s.vm.findClass RX5 = some m.cls := findClass_of_methodNamed B.named
  have hlocks := B.notSynchronized
  have hD := cwl_D hI (enc cI c9 ad M)
  have hS : va_S (Ac 100 ad) s.heap s.heap [] := va_S.rf
  have hl := lv_entry ([.ref (ad 0), .int p1]) (n := 3) (Nat.le_of_ble_eq_true rfl)
  rw [lg_entry_eq]
  generalize (lg_sl ([.ref (ad 0), .int p1]) ++ List.replicate (3 - (lg_sl ([.ref (ad 0), .int p1])).length) Slot.unset).toArray = ls at hl ⊢
  have hl : lv_has ls 3 [(0, .ref (ad 0)), (1, .int p1)] := hl
  unfold F_X5_again at h
  refine lv_aload_n hx hb dX5_again_0 rfl (lv_at hl 0 rfl) ?_
  refine lv_iload_n hx hb dX5_again_1 rfl (lv_at hl 1 rfl) ?_
  obtain ⟨q_1, hq_1, h⟩ := bi_some h
  refine va_csq (va_Run.run (va_runV (As := [.int p1]) (rest := []) ⟨hx, hb, hml, hown, hts⟩ (k_X5_find l dC dI cI c9 ad hI M p1 q_1 hq_1) (cwV 1 hts gX5_again_X5_find rfl rfl rfl (by decide +kernel) ⟨Nat.le_of_ble_eq_true rfl, Nat.le_of_ble_eq_true rfl⟩) (gP_preV hKK hKw hP (va_recv hKw hP (ci := 5) (q0 := 0) rfl cw_lt)) rfl rfl hl.1 rfl (lv_room (Nat.le_of_ble_eq_true rfl)) dX5_again_2 ⟨Nat.zero_le _, Nat.zero_le _⟩)) (fun r_2 hr_2 => ?_)
  subst hr_2
  cases q_1 with
  | none =>
    dsimp only at h
    refine W.eq (g2 := F0 m 5 ls [.null]) rfl ?_
    refine lv_astore_nN (lv' := [(2, .null), (0, .ref (ad 0)), (1, .int p1)]) hx hb dX5_again_5 rfl hl (by decide) rfl (fun ls hl => ?_)
    refine lv_aload_nN hx hb dX5_again_6 rfl (lv_at hl 0 rfl) ?_
    refine lv_ifnonnullN hx hb dX5_again_7 ?_
    refine lv_iconst (v := (-1)) hx hb dX5_again_10 (by decide) ?_
    replace h := Option.some.inj h
    subst h
    exact W.iret (v := (-1)) hx hb hr (fun t ht hW => ⟨⟨_, _, rfl, ⟨rfl, rfl⟩, (show va_P (dC, dI) vwCl (cW cI c9 ad M) t.heap by rw [ht]; exact hP)⟩, hS.F ht⟩) hS.2.2 dX5_again_11
  | some w_3 =>
    dsimp only at h
    have hw_3 : wok w_3 := find_wok hq_1
    refine W.eq (g2 := F0 m 5 ls [.ref (ad w_3)]) rfl ?_
    refine lv_astore_n (lv' := [(2, .ref (ad w_3)), (0, .ref (ad 0)), (1, .int p1)]) hx hb dX5_again_5 rfl hl (by decide) rfl (fun ls hl => ?_)
    refine lv_aload_n hx hb dX5_again_6 rfl (lv_at hl 0 rfl) ?_
    refine lv_ifnonnull (tgt := 12) hx hb dX5_again_7 (by decide) ?_
    refine lv_aload_n hx hb dX5_again_12 rfl (lv_at hl 0 rfl) ?_
    refine va_getN (D := (dC, dI)) (ci := 4) (v := .int (M w_3 5)) (C := RX4) (T := TX4) (N := 12) hx hb hts jX5_again_X4 hown hKw hP w_3 (cw_work (wok.lt hw_3) (wok.k hw_3)) rfl 5 (by decide) (va_Nw.use rfl (hKK.2.2 (.fieldLinkNest RX5 103 RX4 "state" "I" RX5) (by decide +kernel))) (fun _ h9 => h9) rfl dX5_again_13 ?_
    refine lv_iconst (v := 2) hx hb dX5_again_16 (by decide) ?_
    refine lv_icmp_eq (tgt := 39) hx hb dX5_again_17 (by decide) (fun c_4 => ?_) (fun c_4 => ?_)
    · rw [if_pos c_4] at h
      refine lv_aload_n hx hb dX5_again_39 rfl (lv_at hl 0 rfl) ?_
      obtain ⟨q_5, hq_5, h⟩ := bi_some h
      refine va_callv (va_runV (As := []) (rest := []) ⟨hx, hb, hml, hown, hts⟩ (k_X4_beginAgain l dC dI cI c9 ad hI M w_3 hw_3 q_5 hq_5) (cwV 0 hts gX5_again_X4_beginAgain rfl rfl rfl (by decide +kernel) ⟨Nat.le_of_ble_eq_true rfl, Nat.le_of_ble_eq_true rfl⟩) (gP_preV hKK hKw hP (va_recv hKw hP (ci := 4) (q0 := w_3) rfl (cw_work (wok.lt hw_3) (wok.k hw_3)))) rfl rfl hl.1 rfl (lv_room (Nat.le_of_ble_eq_true rfl)) dX5_again_40 ⟨Nat.zero_le _, Nat.zero_le _⟩) hS (fun q _ h => h) (fun q h => h) (fun M_7 t H locs ht hvm hw hP hz1 hk1 hS => ?_)
      replace hw := hw.symm
      subst hw
      rw [ht] at hP
      have hD := cwl_D hI (enc cI c9 ad q_5)
      refine lv_aload_n hx hb dX5_again_43 rfl (lv_at hl 0 rfl) ?_
      refine va_getN (D := (dC, dI)) (ci := 4) (v := .int (q_5 w_3 9)) (C := RX4) (T := TX4) (N := 12) hx hb hts jX5_again_X4 hown hKw hP w_3 (cw_work (wok.lt hw_3) (wok.k hw_3)) rfl 9 (by decide) (va_Nw.use rfl (hKK.2.2 (.fieldLinkNest RX5 112 RX4 "begunAgain" "I" RX5) (by decide +kernel))) (fun _ h9 => h9) rfl dX5_again_44 ?_
      replace h := Option.some.inj h
      subst h
      exact W.iret (v := (q_5 w_3 9)) hx hb hr (fun t ht hW => ⟨⟨_, _, rfl, ⟨rfl, rfl⟩, (show va_P (dC, dI) vwCl (cW cI c9 ad q_5) t.heap by rw [ht]; exact hP)⟩, hS.F ht⟩) hS.2.2 dX5_again_47
    · rw [if_neg c_4] at h
      refine lv_aload_n hx hb dX5_again_20 rfl (lv_at hl 0 rfl) ?_
      refine va_getN (D := (dC, dI)) (ci := 4) (v := .int (M w_3 5)) (C := RX4) (T := TX4) (N := 12) hx hb hts jX5_again_X4 hown hKw hP w_3 (cw_work (wok.lt hw_3) (wok.k hw_3)) rfl 5 (by decide) (va_Nw.use rfl (hKK.2.2 (.fieldLinkNest RX5 103 RX4 "state" "I" RX5) (by decide +kernel))) (fun _ h9 => h9) rfl dX5_again_21 ?_
      refine lv_iconst (v := 3) hx hb dX5_again_24 (by decide) ?_
      refine lv_icmp_eq (tgt := 39) hx hb dX5_again_25 (by decide) (fun c_8 => ?_) (fun c_8 => ?_)
      · rw [if_pos c_8] at h
        refine lv_aload_n hx hb dX5_again_39 rfl (lv_at hl 0 rfl) ?_
        obtain ⟨q_9, hq_9, h⟩ := bi_some h
        refine va_callv (va_runV (As := []) (rest := []) ⟨hx, hb, hml, hown, hts⟩ (k_X4_beginAgain l dC dI cI c9 ad hI M w_3 hw_3 q_9 hq_9) (cwV 0 hts gX5_again_X4_beginAgain rfl rfl rfl (by decide +kernel) ⟨Nat.le_of_ble_eq_true rfl, Nat.le_of_ble_eq_true rfl⟩) (gP_preV hKK hKw hP (va_recv hKw hP (ci := 4) (q0 := w_3) rfl (cw_work (wok.lt hw_3) (wok.k hw_3)))) rfl rfl hl.1 rfl (lv_room (Nat.le_of_ble_eq_true rfl)) dX5_again_40 ⟨Nat.zero_le _, Nat.zero_le _⟩) hS (fun q _ h => h) (fun q h => h) (fun M_11 t H locs ht hvm hw hP hz1 hk1 hS => ?_)
        replace hw := hw.symm
        subst hw
        rw [ht] at hP
        have hD := cwl_D hI (enc cI c9 ad q_9)
        refine lv_aload_n hx hb dX5_again_43 rfl (lv_at hl 0 rfl) ?_
        refine va_getN (D := (dC, dI)) (ci := 4) (v := .int (q_9 w_3 9)) (C := RX4) (T := TX4) (N := 12) hx hb hts jX5_again_X4 hown hKw hP w_3 (cw_work (wok.lt hw_3) (wok.k hw_3)) rfl 9 (by decide) (va_Nw.use rfl (hKK.2.2 (.fieldLinkNest RX5 112 RX4 "begunAgain" "I" RX5) (by decide +kernel))) (fun _ h9 => h9) rfl dX5_again_44 ?_
        replace h := Option.some.inj h
        subst h
        exact W.iret (v := (q_9 w_3 9)) hx hb hr (fun t ht hW => ⟨⟨_, _, rfl, ⟨rfl, rfl⟩, (show va_P (dC, dI) vwCl (cW cI c9 ad q_9) t.heap by rw [ht]; exact hP)⟩, hS.F ht⟩) hS.2.2 dX5_again_47
      · rw [if_neg c_8] at h
        refine lv_aload_n hx hb dX5_again_28 rfl (lv_at hl 0 rfl) ?_
        refine va_getN (D := (dC, dI)) (ci := 4) (v := .int (M w_3 5)) (C := RX4) (T := TX4) (N := 12) hx hb hts jX5_again_X4 hown hKw hP w_3 (cw_work (wok.lt hw_3) (wok.k hw_3)) rfl 5 (by decide) (va_Nw.use rfl (hKK.2.2 (.fieldLinkNest RX5 103 RX4 "state" "I" RX5) (by decide +kernel))) (fun _ h9 => h9) rfl dX5_again_29 ?_
        refine lv_iconst (v := 4) hx hb dX5_again_32 (by decide) ?_
        refine lv_icmp_eq (tgt := 39) hx hb dX5_again_33 (by decide) (fun c_12 => ?_) (fun c_12 => ?_)
        · rw [if_pos c_12] at h
          refine lv_aload_n hx hb dX5_again_39 rfl (lv_at hl 0 rfl) ?_
          obtain ⟨q_13, hq_13, h⟩ := bi_some h
          refine va_callv (va_runV (As := []) (rest := []) ⟨hx, hb, hml, hown, hts⟩ (k_X4_beginAgain l dC dI cI c9 ad hI M w_3 hw_3 q_13 hq_13) (cwV 0 hts gX5_again_X4_beginAgain rfl rfl rfl (by decide +kernel) ⟨Nat.le_of_ble_eq_true rfl, Nat.le_of_ble_eq_true rfl⟩) (gP_preV hKK hKw hP (va_recv hKw hP (ci := 4) (q0 := w_3) rfl (cw_work (wok.lt hw_3) (wok.k hw_3)))) rfl rfl hl.1 rfl (lv_room (Nat.le_of_ble_eq_true rfl)) dX5_again_40 ⟨Nat.zero_le _, Nat.zero_le _⟩) hS (fun q _ h => h) (fun q h => h) (fun M_15 t H locs ht hvm hw hP hz1 hk1 hS => ?_)
          replace hw := hw.symm
          subst hw
          rw [ht] at hP
          have hD := cwl_D hI (enc cI c9 ad q_13)
          refine lv_aload_n hx hb dX5_again_43 rfl (lv_at hl 0 rfl) ?_
          refine va_getN (D := (dC, dI)) (ci := 4) (v := .int (q_13 w_3 9)) (C := RX4) (T := TX4) (N := 12) hx hb hts jX5_again_X4 hown hKw hP w_3 (cw_work (wok.lt hw_3) (wok.k hw_3)) rfl 9 (by decide) (va_Nw.use rfl (hKK.2.2 (.fieldLinkNest RX5 112 RX4 "begunAgain" "I" RX5) (by decide +kernel))) (fun _ h9 => h9) rfl dX5_again_44 ?_
          replace h := Option.some.inj h
          subst h
          exact W.iret (v := (q_13 w_3 9)) hx hb hr (fun t ht hW => ⟨⟨_, _, rfl, ⟨rfl, rfl⟩, (show va_P (dC, dI) vwCl (cW cI c9 ad q_13) t.heap by rw [ht]; exact hP)⟩, hS.F ht⟩) hS.2.2 dX5_again_47
        · rw [if_neg c_12] at h
          refine lv_bipush (v := (-3)) hx hb dX5_again_36 (by decide) ?_
          replace h := Option.some.inj h
          subst h
          exact W.iret (v := (-3)) hx hb hr (fun t ht hW => ⟨⟨_, _, rfl, ⟨rfl, rfl⟩, (show va_P (dC, dI) vwCl (cW cI c9 ad M) t.heap by rw [ht]; exact hP)⟩, hS.F ht⟩) hS.2.2 dX5_again_38
theorem jX5_close_X4 : ∀ w ∈ u_ws RX4 TX4 12, w ∈ wsX5_close := by decide +kernel
theorem jX5_close_X5 : ∀ w ∈ u_ws RX5 TX5 5, w ∈ wsX5_close := by decide +kernel
def L_X5_close_9 (K : Mem → Int32 → Int32 → Option (Int32 × Mem))  : Nat → Mem → Int32 → Int32 → Option (Int32 × Mem)
  | 0, _, _, _ => none
  | n + 1, M_1, v1_9, v2_9 => (if v2_9 < 0 then K M_1 v1_9 v2_9 else gd (inb v2_9 12) <| (if (M_1 (16 + 7 * v2_9.toNatClampNeg) 5) = 0 then gd (inb v2_9 12) <| bi (F_X5_undo M_1 (16 + 7 * v2_9.toNatClampNeg) 5) fun q_6 => L_X5_close_9 K  n q_6 (v1_9 + 1) (v2_9 + (-1)) else L_X5_close_9 K  n M_1 v1_9 (v2_9 + (-1))))
def F_X5_close (M : Mem) : Option (Int32 × Mem) :=
  L_X5_close_9 (fun M_1 v1_9 v2_9 => some (v1_9, M_1))  4000 M 0 ((M 0 1) - 1)
set_option maxHeartbeats 4000000 in
set_option maxRecDepth 100000 in
theorem k_X5_close (l : Launch) (dC : Nat → ClassId) (dI : Nat → Nat → Nat) (cI c9 : ClassId) (ad : Nat → Nat) (hI : Inj 100 ad) (M : Mem) (q : Int32 × Mem) (h : F_X5_close M  = some q) : Met l yX5_close wsX5_close ({ frames := 5, cells := 0, slots := 0, locals := 113 }) (gP dC dI cI c9 ad M [.ref (ad 0)]) (va_Qi (fun x M' => x = q.1 ∧ M' = q.2) (fun M' t => va_P (dC, dI) vwCl (cW cI c9 ad M') t.heap) (Ac 100 ad)) 0 0 (Ac 100 ad) := by
  refine Met.ofW (cc := cX5_close) (maxL := 3) (ret := (some .int)) (by decide) rfl ?_
  intro p e s m args below meth c s₁ B hml hv
  obtain ⟨rfl, hP, hKK, hKw⟩ := hv
  have hx := B.exec
  have hb := B.bytes
  have hr := B.returns
  have hts := atoms_spec (ws := wsX5_close) B.pre
  have hown : s.vm.findClass RX5 = some m.cls := findClass_of_methodNamed B.named
  have hlocks := B.notSynchronized
  have hD := cwl_D hI (enc cI c9 ad M)
  have hS : va_S (Ac 100 ad) s.heap s.heap [] := va_S.rf
  have hl := lv_entry ([.ref (ad 0)]) (n := 3) (Nat.le_of_ble_eq_true rfl)
  rw [lg_entry_eq]
  generalize (lg_sl ([.ref (ad 0)]) ++ List.replicate (3 - (lg_sl ([.ref (ad 0)])).length) Slot.unset).toArray = ls at hl ⊢
  have hl : lv_has ls 3 [(0, .ref (ad 0))] := hl
  unfold F_X5_close at h
  refine lv_iconst (v := 0) hx hb dX5_close_0 (by decide) ?_
  refine lv_istore_n (lv' := [(1, .int 0), (0, .ref (ad 0))]) hx hb dX5_close_1 rfl hl (by decide) rfl (fun ls hl => ?_)
  refine lv_aload_n hx hb dX5_close_2 rfl (lv_at hl 1 rfl) ?_
  refine va_get (D := (dC, dI)) (ci := 5) (v := .int (M 0 1)) (C := RX5) (T := TX5) (N := 5) hx hb hts jX5_close_X5 hown hKw hP 0 cw_lt rfl 1 (by decide) (hts (.fieldLink RX5 39 "LendThreads" "workCount" "I") (by decide +kernel)) (fun _ h9 => h9) rfl dX5_close_3 ?_
  refine lv_iconst (v := 1) hx hb dX5_close_6 (by decide) ?_
  refine lv_isub hx hb dX5_close_7 ?_
  refine lv_istore_n (lv' := [(2, .int ((M 0 1) - 1)), (1, .int 0), (0, .ref (ad 0))]) hx hb dX5_close_8 rfl hl (by decide) rfl (fun ls hl => ?_)
  have key9 : ∀ (K : Mem → Int32 → Int32 → Option (Int32 × Mem)), (∀ (M_1 : Mem) (v1_9 v2_9 : Int32) (H : Heap) (locs : List Loc) (ls : Array Slot), K M_1 v1_9 v2_9 = some q → va_P (dC, dI) vwCl (cW cI c9 ad M_1) H → va_S (Ac 100 ad) s.heap H locs → lv_has ls 3 [(2, .int v2_9), (1, .int v1_9), (0, .ref (ad 0))] → W p l e (headSpec wsX5_close ({ frames := 5, cells := 0, slots := 0, locals := 113 })).room s m ([.ref (ad 0)] : List Value).toArray below meth c H locs 0 0 (MQ below (va_Qi (fun x M' => x = q.1 ∧ M' = q.2) (fun M' t => va_P (dC, dI) vwCl (cW cI c9 ad M') t.heap) (Ac 100 ad)) ([.ref (ad 0)] : List Value).toArray s 0 0 (Ac 100 ad)) (F0 m 45 ls [])) → ∀ (n : Nat), ∀ (M_1 : Mem) (v1_9 v2_9 : Int32) (H : Heap) (locs : List Loc) (ls : Array Slot), L_X5_close_9 K  n M_1 v1_9 v2_9 = some q → va_P (dC, dI) vwCl (cW cI c9 ad M_1) H → va_S (Ac 100 ad) s.heap H locs → lv_has ls 3 [(2, .int v2_9), (1, .int v1_9), (0, .ref (ad 0))] → W p l e (headSpec wsX5_close ({ frames := 5, cells := 0, slots := 0, locals := 113 })).room s m ([.ref (ad 0)] : List Value).toArray below meth c H locs 0 0 (MQ below (va_Qi (fun x M' => x = q.1 ∧ M' = q.2) (fun M' t => va_P (dC, dI) vwCl (cW cI c9 ad M') t.heap) (Ac 100 ad)) ([.ref (ad 0)] : List Value).toArray s 0 0 (Ac 100 ad)) (F0 m 9 ls []) := by
    intro K hk n
    induction n with
    | zero =>
      intro M_1 v1_9 v2_9 H locs ls h
      exact absurd h (by simp [L_X5_close_9])
    | succ n ih =>
      intro M_1 v1_9 v2_9 H locs ls h hP hS hl
      have hD := cwl_D hI (enc cI c9 ad M_1)
      simp only [L_X5_close_9] at h
      refine lv_iload_n hx hb dX5_close_9 rfl (lv_at hl 0 rfl) ?_
      refine lv_if_lt (tgt := 45) hx hb dX5_close_10 (by decide) (fun c_2 => ?_) (fun c_2 => ?_)
      · rw [if_pos c_2] at h
        exact hk M_1 v1_9 v2_9 _ _ _ h hP hS (lv_sub hl [0, 1, 2] rfl)
      · rw [if_neg c_2] at h
        refine lv_aload_n hx hb dX5_close_13 rfl (lv_at hl 2 rfl) ?_
        refine va_get (D := (dC, dI)) (ci := 5) (v := .ref (ad 1)) (C := RX5) (T := TX5) (N := 5) hx hb hts jX5_close_X5 hown hKw hP 0 cw_lt rfl 0 (by decide) (hts (.fieldLink RX5 11 "LendThreads" "works" "[LLendThreads$Work;") (by decide +kernel)) (fun _ h9 => h9) rfl dX5_close_14 ?_
        refine lv_iload_n hx hb dX5_close_17 rfl (lv_at hl 0 rfl) ?_
        obtain ⟨g_3, h⟩ := gd_some h
        refine va_aldq hx hb hKw hP 1 1 cw_ws rfl (inb_in g_3) dX5_close_18 ?_
        refine W.eq (g2 := F0 m 19 ls [.ref (ad (16 + 7 * v2_9.toNatClampNeg))]) rfl ?_
        refine va_getN (D := (dC, dI)) (ci := 4) (v := .int (M_1 (16 + 7 * v2_9.toNatClampNeg) 5)) (C := RX4) (T := TX4) (N := 12) hx hb hts jX5_close_X4 hown hKw hP (16 + 7 * v2_9.toNatClampNeg) (cw_work (wok.lt (wok.of (bn_lt (inb_in g_3)))) (wok.k (wok.of (bn_lt (inb_in g_3))))) rfl 5 (by decide) (va_Nw.use rfl (hKK.2.2 (.fieldLinkNest RX5 103 RX4 "state" "I" RX5) (by decide +kernel))) (fun _ h9 => h9) rfl dX5_close_19 ?_
        refine lv_if_ne (tgt := 39) hx hb dX5_close_22 (by decide) (fun c_4 => ?_) (fun c_4 => ?_)
        · rw [if_neg c_4] at h
          refine lv_iinc (v := v2_9 + (-1)) (lv' := [(2, .int (v2_9 + (-1))), (1, .int v1_9), (0, .ref (ad 0))]) hx hb dX5_close_39 hl (k := 0) rfl rfl (by decide) rfl (fun ls hl => ?_)
          refine lv_goto (tgt := 9) hx hb dX5_close_42 (by decide) ?_
          exact ih M_1 v1_9 (v2_9 + (-1)) _ _ _ h hP hS (lv_sub hl [0, 1, 2] rfl)
        · rw [if_pos c_4] at h
          refine lv_aload_n hx hb dX5_close_25 rfl (lv_at hl 2 rfl) ?_
          refine lv_aload_n hx hb dX5_close_26 rfl (lv_at hl 2 rfl) ?_
          refine va_get (D := (dC, dI)) (ci := 5) (v := .ref (ad 1)) (C := RX5) (T := TX5) (N := 5) hx hb hts jX5_close_X5 hown hKw hP 0 cw_lt rfl 0 (by decide) (hts (.fieldLink RX5 11 "LendThreads" "works" "[LLendThreads$Work;") (by decide +kernel)) (fun _ h9 => h9) rfl dX5_close_27 ?_
          refine lv_iload_n hx hb dX5_close_30 rfl (lv_at hl 0 rfl) ?_
          obtain ⟨g_5, h⟩ := gd_some h
          refine va_aldq hx hb hKw hP 1 1 cw_ws rfl (inb_in g_5) dX5_close_31 ?_
          refine W.eq (g2 := F0 m 32 ls [.ref (ad (16 + 7 * v2_9.toNatClampNeg)), .ref (ad 0)]) rfl ?_
          refine lv_iconst (v := 5) hx hb dX5_close_32 (by decide) ?_
          obtain ⟨q_6, hq_6, h⟩ := bi_some h
          refine va_callv (va_runV (As := [.ref (ad (16 + 7 * v2_9.toNatClampNeg)), .int 5]) (rest := []) ⟨hx, hb, hml, hown, hts⟩ (k_X5_undo l dC dI cI c9 ad hI M_1 (16 + 7 * v2_9.toNatClampNeg) (wok.of (bn_lt (inb_in g_5))) 5 q_6 hq_6) (cwV 2 hts gX5_close_X5_undo rfl rfl rfl (by decide +kernel) ⟨Nat.le_of_ble_eq_true rfl, Nat.le_of_ble_eq_true rfl⟩) (gP_preV hKK hKw hP (va_recv hKw hP (ci := 5) (q0 := 0) rfl cw_lt)) rfl rfl hl.1 rfl (lv_room (Nat.le_of_ble_eq_true rfl)) dX5_close_33 ⟨Nat.zero_le _, Nat.zero_le _⟩) hS (fun q _ h => h) (fun q h => h) (fun M_8 t H locs ht hvm hw hP hz1 hk1 hS => ?_)
          replace hw := hw.symm
          subst hw
          rw [ht] at hP
          have hD := cwl_D hI (enc cI c9 ad q_6)
          refine lv_iinc (v := v1_9 + 1) (lv' := [(1, .int (v1_9 + 1)), (2, .int v2_9), (0, .ref (ad 0))]) hx hb dX5_close_36 hl (k := 1) rfl rfl (by decide) rfl (fun ls hl => ?_)
          refine lv_iinc (v := v2_9 + (-1)) (lv' := [(2, .int (v2_9 + (-1))), (1, .int (v1_9 + 1)), (0, .ref (ad 0))]) hx hb dX5_close_39 hl (k := 1) rfl rfl (by decide) rfl (fun ls hl => ?_)
          refine lv_goto (tgt := 9) hx hb dX5_close_42 (by decide) ?_
          exact ih q_6 (v1_9 + 1) (v2_9 + (-1)) _ _ _ h hP hS (lv_sub hl [0, 1, 2] rfl)
  refine key9 _ (fun M_1 v1_9 v2_9 H locs ls h hP hS hl => ?_) 4000 M 0 ((M 0 1) - 1) _ _ _ h hP hS (lv_sub hl [0, 1, 2] rfl)
  have hD := cwl_D hI (enc cI c9 ad M_1)
  try dsimp only at h
  refine lv_iload_n hx hb dX5_close_45 rfl (lv_at hl 1 rfl) ?_
  replace h := Option.some.inj h
  subst h
  exact W.iret (v := v1_9) hx hb hr (fun t ht hW => ⟨⟨_, _, rfl, ⟨rfl, rfl⟩, (show va_P (dC, dI) vwCl (cW cI c9 ad M_1) t.heap by rw [ht]; exact hP)⟩, hS.F ht⟩) hS.2.2 dX5_close_46
theorem jX5_state_X4 : ∀ w ∈ u_ws RX4 TX4 12, w ∈ wsX5_state := by decide +kernel
theorem jX5_state_X5 : ∀ w ∈ u_ws RX5 TX5 5, w ∈ wsX5_state := by decide +kernel
def F_X5_state (M : Mem) (p1 : Int32) (p2 : Int32) : Option (Int32) :=
  bi (F_X5_find M p1) fun q_1 => match q_1 with | none => some (-1) | some w_3 => (if p2 = 0 then some (M w_3 5) else (if p2 = 1 then some (M w_3 6) else (if p2 = 2 then some (M w_3 7) else (if p2 = 3 then bi (F_X3_countOf M (M w_3 0)) fun q_8 => some q_8 else (if p2 = 4 then some (M w_3 8) else some (-1))))))
set_option maxHeartbeats 4000000 in
set_option maxRecDepth 100000 in
theorem k_X5_state (l : Launch) (dC : Nat → ClassId) (dI : Nat → Nat → Nat) (cI c9 : ClassId) (ad : Nat → Nat) (hI : Inj 100 ad) (M : Mem) (p1 : Int32) (p2 : Int32) (q : Int32) (h : F_X5_state M p1 p2 = some q) : Met l yX5_state wsX5_state ({ frames := 2, cells := 0, slots := 0, locals := 42 }) (gP dC dI cI c9 ad M [.ref (ad 0), .int p1, .int p2]) (vp_Si (fun x => x = q)) 0 0 (fun _ => False) := by
  refine Met.ofW (cc := cX5_state) (maxL := 4) (ret := (some .int)) (by decide) rfl ?_
  intro p e s m args below meth c s₁ B hml hv
  obtain ⟨rfl, hP, hKK, hKw⟩ := hv
  have hx := B.exec
  have hb := B.bytes
  have hr := B.returns
  have hts := atoms_spec (ws := wsX5_state) B.pre
  have hown : s.vm.findClass RX5 = some m.cls := findClass_of_methodNamed B.named
  have hlocks := B.notSynchronized
  have hl := lv_entry ([.ref (ad 0), .int p1, .int p2]) (n := 4) (Nat.le_of_ble_eq_true rfl)
  rw [lg_entry_eq]
  generalize (lg_sl ([.ref (ad 0), .int p1, .int p2]) ++ List.replicate (4 - (lg_sl ([.ref (ad 0), .int p1, .int p2])).length) Slot.unset).toArray = ls at hl ⊢
  have hl : lv_has ls 4 [(0, .ref (ad 0)), (1, .int p1), (2, .int p2)] := hl
  unfold F_X5_state at h
  refine lv_aload_n hx hb dX5_state_0 rfl (lv_at hl 0 rfl) ?_
  refine lv_iload_n hx hb dX5_state_1 rfl (lv_at hl 1 rfl) ?_
  obtain ⟨q_1, hq_1, h⟩ := bi_some h
  refine va_csq (va_Run.run (va_runV (As := [.int p1]) (rest := []) ⟨hx, hb, hml, hown, hts⟩ (k_X5_find l dC dI cI c9 ad hI M p1 q_1 hq_1) (cwV 1 hts gX5_state_X5_find rfl rfl rfl (by decide +kernel) ⟨Nat.le_of_ble_eq_true rfl, Nat.le_of_ble_eq_true rfl⟩) (gP_preV hKK hKw hP (va_recv hKw hP (ci := 5) (q0 := 0) rfl cw_lt)) rfl rfl hl.1 rfl (lv_room (Nat.le_of_ble_eq_true rfl)) dX5_state_2 ⟨Nat.zero_le _, Nat.zero_le _⟩)) (fun r_2 hr_2 => ?_)
  subst hr_2
  cases q_1 with
  | none =>
    dsimp only at h
    refine W.eq (g2 := F0 m 5 ls [.null]) rfl ?_
    refine lv_astore_nN (lv' := [(3, .null), (0, .ref (ad 0)), (1, .int p1), (2, .int p2)]) hx hb dX5_state_5 rfl hl (by decide) rfl (fun ls hl => ?_)
    refine lv_aload_nN hx hb dX5_state_6 rfl (lv_at hl 0 rfl) ?_
    refine lv_ifnonnullN hx hb dX5_state_7 ?_
    refine lv_iconst (v := (-1)) hx hb dX5_state_10 (by decide) ?_
    replace h := Option.some.inj h
    subst h
    exact W.iret (v := (-1)) hx hb hr (fun t ht hW => ⟨_, rfl, rfl, ht⟩) (fun _ h => by cases h) dX5_state_11
  | some w_3 =>
    dsimp only at h
    have hw_3 : wok w_3 := find_wok hq_1
    refine W.eq (g2 := F0 m 5 ls [.ref (ad w_3)]) rfl ?_
    refine lv_astore_n (lv' := [(3, .ref (ad w_3)), (0, .ref (ad 0)), (1, .int p1), (2, .int p2)]) hx hb dX5_state_5 rfl hl (by decide) rfl (fun ls hl => ?_)
    refine lv_aload_n hx hb dX5_state_6 rfl (lv_at hl 0 rfl) ?_
    refine lv_ifnonnull (tgt := 12) hx hb dX5_state_7 (by decide) ?_
    refine lv_iload_n hx hb dX5_state_12 rfl (lv_at hl 3 rfl) ?_
    by_cases c_4 : p2 = 0
    · rw [if_pos c_4] at h
      refine lv_tableIn (off := 35) (tgt := 48) hx hb dX5_state_13 (by rw [c_4]; decide) (by rw [c_4]; decide) (by rw [c_4]; decide) (by decide) ?_
      refine lv_aload_n hx hb dX5_state_48 rfl (lv_at hl 0 rfl) ?_
      refine va_getN (D := (dC, dI)) (ci := 4) (v := .int (M w_3 5)) (C := RX4) (T := TX4) (N := 12) hx hb hts jX5_state_X4 hown hKw hP w_3 (cw_work (wok.lt hw_3) (wok.k hw_3)) rfl 5 (by decide) (va_Nw.use rfl (hKK.2.2 (.fieldLinkNest RX5 103 RX4 "state" "I" RX5) (by decide +kernel))) (fun _ h9 => h9) rfl dX5_state_49 ?_
      replace h := Option.some.inj h
      subst h
      exact W.iret (v := (M w_3 5)) hx hb hr (fun t ht hW => ⟨_, rfl, rfl, ht⟩) (fun _ h => by cases h) dX5_state_52
    rw [if_neg c_4] at h
    by_cases c_5 : p2 = 1
    · rw [if_pos c_5] at h
      refine lv_tableIn (off := 40) (tgt := 53) hx hb dX5_state_13 (by rw [c_5]; decide) (by rw [c_5]; decide) (by rw [c_5]; decide) (by decide) ?_
      refine lv_aload_n hx hb dX5_state_53 rfl (lv_at hl 0 rfl) ?_
      refine va_getN (D := (dC, dI)) (ci := 4) (v := .int (M w_3 6)) (C := RX4) (T := TX4) (N := 12) hx hb hts jX5_state_X4 hown hKw hP w_3 (cw_work (wok.lt hw_3) (wok.k hw_3)) rfl 6 (by decide) (va_Nw.use rfl (hKK.2.2 (.fieldLinkNest RX5 115 RX4 "step" "I" RX5) (by decide +kernel))) (fun _ h9 => h9) rfl dX5_state_54 ?_
      replace h := Option.some.inj h
      subst h
      exact W.iret (v := (M w_3 6)) hx hb hr (fun t ht hW => ⟨_, rfl, rfl, ht⟩) (fun _ h => by cases h) dX5_state_57
    rw [if_neg c_5] at h
    by_cases c_6 : p2 = 2
    · rw [if_pos c_6] at h
      refine lv_tableIn (off := 45) (tgt := 58) hx hb dX5_state_13 (by rw [c_6]; decide) (by rw [c_6]; decide) (by rw [c_6]; decide) (by decide) ?_
      refine lv_aload_n hx hb dX5_state_58 rfl (lv_at hl 0 rfl) ?_
      refine va_getN (D := (dC, dI)) (ci := 4) (v := .int (M w_3 7)) (C := RX4) (T := TX4) (N := 12) hx hb hts jX5_state_X4 hown hKw hP w_3 (cw_work (wok.lt hw_3) (wok.k hw_3)) rfl 7 (by decide) (va_Nw.use rfl (hKK.2.2 (.fieldLinkNest RX5 118 RX4 "got" "I" RX5) (by decide +kernel))) (fun _ h9 => h9) rfl dX5_state_59 ?_
      replace h := Option.some.inj h
      subst h
      exact W.iret (v := (M w_3 7)) hx hb hr (fun t ht hW => ⟨_, rfl, rfl, ht⟩) (fun _ h => by cases h) dX5_state_62
    rw [if_neg c_6] at h
    by_cases c_7 : p2 = 3
    · rw [if_pos c_7] at h
      refine lv_tableIn (off := 50) (tgt := 63) hx hb dX5_state_13 (by rw [c_7]; decide) (by rw [c_7]; decide) (by rw [c_7]; decide) (by decide) ?_
      refine lv_aload_n hx hb dX5_state_63 rfl (lv_at hl 1 rfl) ?_
      refine va_get (D := (dC, dI)) (ci := 5) (v := .ref (ad 2)) (C := RX5) (T := TX5) (N := 5) hx hb hts jX5_state_X5 hown hKw hP 0 cw_lt rfl 2 (by decide) (hts (.fieldLink RX5 18 "LendThreads" "shelf" "LLendThreads$Shelf;") (by decide +kernel)) (fun _ h9 => h9) rfl dX5_state_64 ?_
      refine lv_aload_n hx hb dX5_state_67 rfl (lv_at hl 0 rfl) ?_
      refine va_getN (D := (dC, dI)) (ci := 4) (v := .int (M w_3 0)) (C := RX4) (T := TX4) (N := 12) hx hb hts jX5_state_X4 hown hKw hP w_3 (cw_work (wok.lt hw_3) (wok.k hw_3)) rfl 0 (by decide) (va_Nw.use rfl (hKK.2.2 (.fieldLinkNest RX5 49 RX4 "number" "I" RX5) (by decide +kernel))) (fun _ h9 => h9) rfl dX5_state_68 ?_
      obtain ⟨q_8, hq_8, h⟩ := bi_some h
      refine vp_callSi (va_Run.run (va_runV (As := [.int (M w_3 0)]) (rest := []) ⟨hx, hb, hml, hown, hts⟩ (k_X3_countOf l dC dI cI c9 ad hI M (M w_3 0) q_8 hq_8) (cwV 1 hts gX5_state_X3_countOf rfl rfl rfl (by decide +kernel) ⟨Nat.le_of_ble_eq_true rfl, Nat.le_of_ble_eq_true rfl⟩) (gP_preV hKK hKw hP (va_recv hKw hP (ci := 3) (q0 := 2) rfl cw_shelf)) rfl rfl hl.1 rfl (lv_room (Nat.le_of_ble_eq_true rfl)) dX5_state_71 ⟨Nat.zero_le _, Nat.zero_le _⟩)) (fun r_9 hr_9 => ?_)
      replace hr_9 := hr_9.symm
      subst hr_9
      replace h := Option.some.inj h
      subst h
      exact W.iret (v := q_8) hx hb hr (fun t ht hW => ⟨_, rfl, rfl, ht⟩) (fun _ h => by cases h) dX5_state_74
    rw [if_neg c_7] at h
    by_cases c_10 : p2 = 4
    · rw [if_pos c_10] at h
      refine lv_tableIn (off := 62) (tgt := 75) hx hb dX5_state_13 (by rw [c_10]; decide) (by rw [c_10]; decide) (by rw [c_10]; decide) (by decide) ?_
      refine lv_aload_n hx hb dX5_state_75 rfl (lv_at hl 0 rfl) ?_
      refine va_getN (D := (dC, dI)) (ci := 4) (v := .int (M w_3 8)) (C := RX4) (T := TX4) (N := 12) hx hb hts jX5_state_X4 hown hKw hP w_3 (cw_work (wok.lt hw_3) (wok.k hw_3)) rfl 8 (by decide) (va_Nw.use rfl (hKK.2.2 (.fieldLinkNest RX5 124 RX4 "askedFor" "I" RX5) (by decide +kernel))) (fun _ h9 => h9) rfl dX5_state_76 ?_
      replace h := Option.some.inj h
      subst h
      exact W.iret (v := (M w_3 8)) hx hb hr (fun t ht hW => ⟨_, rfl, rfl, ht⟩) (fun _ h => by cases h) dX5_state_79
    rw [if_neg c_10] at h
    refine lv_tableOut (tgt := 80) hx hb dX5_state_13 (sw_out c_4 c_5 c_6 c_7 c_10) (by decide) ?_
    refine lv_iconst (v := (-1)) hx hb dX5_state_80 (by decide) ?_
    replace h := Option.some.inj h
    subst h
    exact W.iret (v := (-1)) hx hb hr (fun t ht hW => ⟨_, rfl, rfl, ht⟩) (fun _ h => by cases h) dX5_state_81
theorem jX5_has_X3 : ∀ w ∈ u_ws RX3 TX3 4, w ∈ wsX5_has := by decide +kernel
theorem jX5_has_X5 : ∀ w ∈ u_ws RX5 TX5 5, w ∈ wsX5_has := by decide +kernel
def F_X5_has (M : Mem) (p1 : Int32) : Option (Int32) :=
  bi (F_X5_isCopy M p1) fun q_1 => (if q_1 = 0 then some (-1) else gd (inb p1 (ln 5)) <| some (M 5 p1.toNatClampNeg))
set_option maxHeartbeats 4000000 in
set_option maxRecDepth 100000 in
theorem k_X5_has (l : Launch) (dC : Nat → ClassId) (dI : Nat → Nat → Nat) (cI c9 : ClassId) (ad : Nat → Nat) (hI : Inj 100 ad) (M : Mem) (p1 : Int32) (q : Int32) (h : F_X5_has M p1 = some q) : Met l yX5_has wsX5_has ({ frames := 1, cells := 0, slots := 0, locals := 20 }) (gP dC dI cI c9 ad M [.ref (ad 0), .int p1]) (vp_Si (fun x => x = q)) 0 0 (fun _ => False) := by
  refine Met.ofW (cc := cX5_has) (maxL := 2) (ret := (some .int)) (by decide) rfl ?_
  intro p e s m args below meth c s₁ B hml hv
  obtain ⟨rfl, hP, hKK, hKw⟩ := hv
  have hx := B.exec
  have hb := B.bytes
  have hr := B.returns
  have hts := atoms_spec (ws := wsX5_has) B.pre
  have hown : s.vm.findClass RX5 = some m.cls := findClass_of_methodNamed B.named
  have hlocks := B.notSynchronized
  have hl := lv_entry ([.ref (ad 0), .int p1]) (n := 2) (Nat.le_of_ble_eq_true rfl)
  rw [lg_entry_eq]
  generalize (lg_sl ([.ref (ad 0), .int p1]) ++ List.replicate (2 - (lg_sl ([.ref (ad 0), .int p1])).length) Slot.unset).toArray = ls at hl ⊢
  have hl : lv_has ls 2 [(0, .ref (ad 0)), (1, .int p1)] := hl
  unfold F_X5_has at h
  refine lv_iload_n hx hb dX5_has_0 rfl (lv_at hl 1 rfl) ?_
  obtain ⟨q_1, hq_1, h⟩ := bi_some h
  refine vp_callSi (va_Run.run (va_runS (As := [.int p1]) (rest := []) ⟨hx, hb, hml, hown, hts⟩ (k_X5_isCopy l dC dI cI c9 ad hI M p1 q_1 hq_1) (va_cwS 1 hts gX5_has_X5_isCopy rfl rfl rfl (by decide +kernel) ⟨Nat.le_of_ble_eq_true rfl, Nat.le_of_ble_eq_true rfl⟩) (gP_preS hKK hKw hP) rfl rfl hl.1 rfl (lv_room (Nat.le_of_ble_eq_true rfl)) dX5_has_1 ⟨Nat.zero_le _, Nat.zero_le _⟩)) (fun r_2 hr_2 => ?_)
  replace hr_2 := hr_2.symm
  subst hr_2
  refine lv_if_eq (tgt := 19) hx hb dX5_has_4 (by decide) (fun c_3 => ?_) (fun c_3 => ?_)
  · rw [if_pos c_3] at h
    refine lv_iconst (v := (-1)) hx hb dX5_has_19 (by decide) ?_
    replace h := Option.some.inj h
    subst h
    exact W.iret (v := (-1)) hx hb hr (fun t ht hW => ⟨_, rfl, rfl, ht⟩) (fun _ h => by cases h) dX5_has_20
  · rw [if_neg c_3] at h
    refine lv_aload_n hx hb dX5_has_7 rfl (lv_at hl 0 rfl) ?_
    refine va_get (D := (dC, dI)) (ci := 5) (v := .ref (ad 2)) (C := RX5) (T := TX5) (N := 5) hx hb hts jX5_has_X5 hown hKw hP 0 cw_lt rfl 2 (by decide) (hts (.fieldLink RX5 18 "LendThreads" "shelf" "LLendThreads$Shelf;") (by decide +kernel)) (fun _ h9 => h9) rfl dX5_has_8 ?_
    refine va_getN (D := (dC, dI)) (ci := 3) (v := .ref (ad 5)) (C := RX3) (T := TX3) (N := 4) hx hb hts jX5_has_X3 hown hKw hP 2 cw_shelf rfl 2 (by decide) (va_Nw.use rfl (hKK.2.2 (.fieldLinkNest RX5 127 RX3 "holders" "[I" RX5) (by decide +kernel))) (fun _ h9 => h9) rfl dX5_has_11 ?_
    refine lv_iload_n hx hb dX5_has_14 rfl (lv_at hl 1 rfl) ?_
    obtain ⟨g_4, h⟩ := gd_some h
    refine va_iald hx hb hKw hP 5 0 (cw_arr (k := 5) (by decide) (by decide)) rfl (inb_in g_4) dX5_has_15 ?_
    refine lv_goto (tgt := 20) hx hb dX5_has_16 (by decide) ?_
    replace h := Option.some.inj h
    subst h
    exact W.iret (v := (M 5 p1.toNatClampNeg)) hx hb hr (fun t ht hW => ⟨_, rfl, rfl, ht⟩) (fun _ h => by cases h) dX5_has_20
theorem jX5_line_X3 : ∀ w ∈ u_ws RX3 TX3 4, w ∈ wsX5_line := by decide +kernel
theorem jX5_line_X5 : ∀ w ∈ u_ws RX5 TX5 5, w ∈ wsX5_line := by decide +kernel
def F_X5_line (M : Mem) (p1 : Int32) (p2 : Int32) : Option (Int32) :=
  bi (F_X2_item M 6 p1 p2) fun q_1 => some q_1
set_option maxHeartbeats 4000000 in
set_option maxRecDepth 100000 in
theorem k_X5_line (l : Launch) (dC : Nat → ClassId) (dI : Nat → Nat → Nat) (cI c9 : ClassId) (ad : Nat → Nat) (hI : Inj 100 ad) (M : Mem) (p1 : Int32) (p2 : Int32) (q : Int32) (h : F_X5_line M p1 p2 = some q) : Met l yX5_line wsX5_line ({ frames := 2, cells := 0, slots := 0, locals := 43 }) (gP dC dI cI c9 ad M [.ref (ad 0), .int p1, .int p2]) (vp_Si (fun x => x = q)) 0 0 (fun _ => False) := by
  refine Met.ofW (cc := cX5_line) (maxL := 3) (ret := (some .int)) (by decide) rfl ?_
  intro p e s m args below meth c s₁ B hml hv
  obtain ⟨rfl, hP, hKK, hKw⟩ := hv
  have hx := B.exec
  have hb := B.bytes
  have hr := B.returns
  have hts := atoms_spec (ws := wsX5_line) B.pre
  have hown : s.vm.findClass RX5 = some m.cls := findClass_of_methodNamed B.named
  have hlocks := B.notSynchronized
  have hl := lv_entry ([.ref (ad 0), .int p1, .int p2]) (n := 3) (Nat.le_of_ble_eq_true rfl)
  rw [lg_entry_eq]
  generalize (lg_sl ([.ref (ad 0), .int p1, .int p2]) ++ List.replicate (3 - (lg_sl ([.ref (ad 0), .int p1, .int p2])).length) Slot.unset).toArray = ls at hl ⊢
  have hl : lv_has ls 3 [(0, .ref (ad 0)), (1, .int p1), (2, .int p2)] := hl
  unfold F_X5_line at h
  refine lv_aload_n hx hb dX5_line_0 rfl (lv_at hl 0 rfl) ?_
  refine va_get (D := (dC, dI)) (ci := 5) (v := .ref (ad 2)) (C := RX5) (T := TX5) (N := 5) hx hb hts jX5_line_X5 hown hKw hP 0 cw_lt rfl 2 (by decide) (hts (.fieldLink RX5 18 "LendThreads" "shelf" "LLendThreads$Shelf;") (by decide +kernel)) (fun _ h9 => h9) rfl dX5_line_1 ?_
  refine va_getN (D := (dC, dI)) (ci := 3) (v := .ref (ad 6)) (C := RX3) (T := TX3) (N := 4) hx hb hts jX5_line_X3 hown hKw hP 2 cw_shelf rfl 3 (by decide) (va_Nw.use rfl (hKK.2.2 (.fieldLinkNest RX5 131 RX3 "lines" "LLendThreads$Rows;" RX5) (by decide +kernel))) (fun _ h9 => h9) rfl dX5_line_4 ?_
  refine lv_iload_n hx hb dX5_line_7 rfl (lv_at hl 1 rfl) ?_
  refine lv_iload_n hx hb dX5_line_8 rfl (lv_at hl 2 rfl) ?_
  obtain ⟨q_1, hq_1, h⟩ := bi_some h
  refine vp_callSi (va_Run.run (va_runV (As := [.int p1, .int p2]) (rest := []) ⟨hx, hb, hml, hown, hts⟩ (k_X2_item l dC dI cI c9 ad hI M 6 rok_6 p1 p2 q_1 hq_1) (cwV 2 hts gX5_line_X2_item rfl rfl rfl (by decide +kernel) ⟨Nat.le_of_ble_eq_true rfl, Nat.le_of_ble_eq_true rfl⟩) (gP_preV hKK hKw hP (va_recv hKw hP (ci := 2) (q0 := 6) rfl (cw_rows rok_6.lt rok_6.k0))) rfl rfl hl.1 rfl (lv_room (Nat.le_of_ble_eq_true rfl)) dX5_line_9 ⟨Nat.zero_le _, Nat.zero_le _⟩)) (fun r_2 hr_2 => ?_)
  replace hr_2 := hr_2.symm
  subst hr_2
  replace h := Option.some.inj h
  subst h
  exact W.iret (v := q_1) hx hb hr (fun t ht hW => ⟨_, rfl, rfl, ht⟩) (fun _ h => by cases h) dX5_line_12
theorem jX5_log_X0 : ∀ w ∈ u_ws RX0 TX0 1, w ∈ wsX5_log := by decide +kernel
theorem jX5_log_X5 : ∀ w ∈ u_ws RX5 TX5 5, w ∈ wsX5_log := by decide +kernel
def F_X5_log (M : Mem) (p1 : Int32) : Option (Int32) :=
  bi (F_X2_item M 13 0 p1) fun q_1 => some q_1
set_option maxHeartbeats 4000000 in
set_option maxRecDepth 100000 in
theorem k_X5_log (l : Launch) (dC : Nat → ClassId) (dI : Nat → Nat → Nat) (cI c9 : ClassId) (ad : Nat → Nat) (hI : Inj 100 ad) (M : Mem) (p1 : Int32) (q : Int32) (h : F_X5_log M p1 = some q) : Met l yX5_log wsX5_log ({ frames := 2, cells := 0, slots := 0, locals := 43 }) (gP dC dI cI c9 ad M [.ref (ad 0), .int p1]) (vp_Si (fun x => x = q)) 0 0 (fun _ => False) := by
  refine Met.ofW (cc := cX5_log) (maxL := 2) (ret := (some .int)) (by decide) rfl ?_
  intro p e s m args below meth c s₁ B hml hv
  obtain ⟨rfl, hP, hKK, hKw⟩ := hv
  have hx := B.exec
  have hb := B.bytes
  have hr := B.returns
  have hts := atoms_spec (ws := wsX5_log) B.pre
  have hown : s.vm.findClass RX5 = some m.cls := findClass_of_methodNamed B.named
  have hlocks := B.notSynchronized
  have hl := lv_entry ([.ref (ad 0), .int p1]) (n := 2) (Nat.le_of_ble_eq_true rfl)
  rw [lg_entry_eq]
  generalize (lg_sl ([.ref (ad 0), .int p1]) ++ List.replicate (2 - (lg_sl ([.ref (ad 0), .int p1])).length) Slot.unset).toArray = ls at hl ⊢
  have hl : lv_has ls 2 [(0, .ref (ad 0)), (1, .int p1)] := hl
  unfold F_X5_log at h
  refine lv_aload_n hx hb dX5_log_0 rfl (lv_at hl 0 rfl) ?_
  refine va_get (D := (dC, dI)) (ci := 5) (v := .ref (ad 12)) (C := RX5) (T := TX5) (N := 5) hx hb hts jX5_log_X5 hown hKw hP 0 cw_lt rfl 4 (by decide) (hts (.fieldLink RX5 32 "LendThreads" "diary" "LLendThreads$Diary;") (by decide +kernel)) (fun _ h9 => h9) rfl dX5_log_1 ?_
  refine va_getN (D := (dC, dI)) (ci := 0) (v := .ref (ad 13)) (C := RX0) (T := TX0) (N := 1) hx hb hts jX5_log_X0 hown hKw hP 12 cw_diary rfl 0 (by decide) (va_Nw.use rfl (hKK.2.2 (.fieldLinkNest RX5 147 RX0 "lines" "LLendThreads$Rows;" RX5) (by decide +kernel))) (fun _ h9 => h9) rfl dX5_log_4 ?_
  refine lv_iconst (v := 0) hx hb dX5_log_7 (by decide) ?_
  refine lv_iload_n hx hb dX5_log_8 rfl (lv_at hl 1 rfl) ?_
  obtain ⟨q_1, hq_1, h⟩ := bi_some h
  refine vp_callSi (va_Run.run (va_runV (As := [.int 0, .int p1]) (rest := []) ⟨hx, hb, hml, hown, hts⟩ (k_X2_item l dC dI cI c9 ad hI M 13 rok_13 0 p1 q_1 hq_1) (cwV 2 hts gX5_log_X2_item rfl rfl rfl (by decide +kernel) ⟨Nat.le_of_ble_eq_true rfl, Nat.le_of_ble_eq_true rfl⟩) (gP_preV hKK hKw hP (va_recv hKw hP (ci := 2) (q0 := 13) rfl (cw_rows rok_13.lt rok_13.k0))) rfl rfl hl.1 rfl (lv_room (Nat.le_of_ble_eq_true rfl)) dX5_log_9 ⟨Nat.zero_le _, Nat.zero_le _⟩)) (fun r_2 hr_2 => ?_)
  replace hr_2 := hr_2.symm
  subst hr_2
  replace h := Option.some.inj h
  subst h
  exact W.iret (v := q_1) hx hb hr (fun t ht hW => ⟨_, rfl, rfl, ht⟩) (fun _ h => by cases h) dX5_log_12
theorem jX5_mail_X5 : ∀ w ∈ u_ws RX5 TX5 5, w ∈ wsX5_mail := by decide +kernel
def F_X5_mail (M : Mem) (p1 : Int32) (p2 : Int32) : Option (Int32) :=
  bi (F_X5_find M p1) fun q_1 => match q_1 with | none => some (-2) | some w_3 => bi (F_X5_isOther M p1 p2) fun q_4 => (if q_4 = 0 then some (-2) else bi (F_X1_way M p1 p2) fun q_7 => bi (F_X1_countThere M q_7) fun q_9 => some q_9)
set_option maxHeartbeats 4000000 in
set_option maxRecDepth 100000 in
theorem k_X5_mail (l : Launch) (dC : Nat → ClassId) (dI : Nat → Nat → Nat) (cI c9 : ClassId) (ad : Nat → Nat) (hI : Inj 100 ad) (M : Mem) (p1 : Int32) (p2 : Int32) (q : Int32) (h : F_X5_mail M p1 p2 = some q) : Met l yX5_mail wsX5_mail ({ frames := 2, cells := 0, slots := 0, locals := 43 }) (gP dC dI cI c9 ad M [.ref (ad 0), .int p1, .int p2]) (vp_Si (fun x => x = q)) 0 0 (fun _ => False) := by
  refine Met.ofW (cc := cX5_mail) (maxL := 3) (ret := (some .int)) (by decide) rfl ?_
  intro p e s m args below meth c s₁ B hml hv
  obtain ⟨rfl, hP, hKK, hKw⟩ := hv
  have hx := B.exec
  have hb := B.bytes
  have hr := B.returns
  have hts := atoms_spec (ws := wsX5_mail) B.pre
  have hown : s.vm.findClass RX5 = some m.cls := findClass_of_methodNamed B.named
  have hlocks := B.notSynchronized
  have hl := lv_entry ([.ref (ad 0), .int p1, .int p2]) (n := 3) (Nat.le_of_ble_eq_true rfl)
  rw [lg_entry_eq]
  generalize (lg_sl ([.ref (ad 0), .int p1, .int p2]) ++ List.replicate (3 - (lg_sl ([.ref (ad 0), .int p1, .int p2])).length) Slot.unset).toArray = ls at hl ⊢
  have hl : lv_has ls 3 [(0, .ref (ad 0)), (1, .int p1), (2, .int p2)] := hl
  unfold F_X5_mail at h
  refine lv_aload_n hx hb dX5_mail_0 rfl (lv_at hl 0 rfl) ?_
  refine lv_iload_n hx hb dX5_mail_1 rfl (lv_at hl 1 rfl) ?_
  obtain ⟨q_1, hq_1, h⟩ := bi_some h
  refine va_csq (va_Run.run (va_runV (As := [.int p1]) (rest := []) ⟨hx, hb, hml, hown, hts⟩ (k_X5_find l dC dI cI c9 ad hI M p1 q_1 hq_1) (cwV 1 hts gX5_mail_X5_find rfl rfl rfl (by decide +kernel) ⟨Nat.le_of_ble_eq_true rfl, Nat.le_of_ble_eq_true rfl⟩) (gP_preV hKK hKw hP (va_recv hKw hP (ci := 5) (q0 := 0) rfl cw_lt)) rfl rfl hl.1 rfl (lv_room (Nat.le_of_ble_eq_true rfl)) dX5_mail_2 ⟨Nat.zero_le _, Nat.zero_le _⟩)) (fun r_2 hr_2 => ?_)
  subst hr_2
  cases q_1 with
  | none =>
    dsimp only at h
    refine W.eq (g2 := F0 m 5 ls [.null]) rfl ?_
    refine lv_ifnullN (tgt := 17) hx hb dX5_mail_5 (by decide) ?_
    refine lv_bipush (v := (-2)) hx hb dX5_mail_17 (by decide) ?_
    replace h := Option.some.inj h
    subst h
    exact W.iret (v := (-2)) hx hb hr (fun t ht hW => ⟨_, rfl, rfl, ht⟩) (fun _ h => by cases h) dX5_mail_19
  | some w_3 =>
    dsimp only at h
    have hw_3 : wok w_3 := find_wok hq_1
    refine W.eq (g2 := F0 m 5 ls [.ref (ad w_3)]) rfl ?_
    refine lv_ifnull hx hb dX5_mail_5 ?_
    refine lv_aload_n hx hb dX5_mail_8 rfl (lv_at hl 0 rfl) ?_
    refine lv_iload_n hx hb dX5_mail_9 rfl (lv_at hl 1 rfl) ?_
    refine lv_iload_n hx hb dX5_mail_10 rfl (lv_at hl 2 rfl) ?_
    obtain ⟨q_4, hq_4, h⟩ := bi_some h
    refine vp_callSi (va_Run.run (va_runV (As := [.int p1, .int p2]) (rest := []) ⟨hx, hb, hml, hown, hts⟩ (k_X5_isOther l dC dI cI c9 ad hI M p1 p2 q_4 hq_4) (cwV 2 hts gX5_mail_X5_isOther rfl rfl rfl (by decide +kernel) ⟨Nat.le_of_ble_eq_true rfl, Nat.le_of_ble_eq_true rfl⟩) (gP_preV hKK hKw hP (va_recv hKw hP (ci := 5) (q0 := 0) rfl cw_lt)) rfl rfl hl.1 rfl (lv_room (Nat.le_of_ble_eq_true rfl)) dX5_mail_11 ⟨Nat.zero_le _, Nat.zero_le _⟩)) (fun r_5 hr_5 => ?_)
    replace hr_5 := hr_5.symm
    subst hr_5
    refine lv_if_ne (tgt := 20) hx hb dX5_mail_14 (by decide) (fun c_6 => ?_) (fun c_6 => ?_)
    · rw [if_neg c_6] at h
      refine lv_aload_n hx hb dX5_mail_20 rfl (lv_at hl 0 rfl) ?_
      refine va_get (D := (dC, dI)) (ci := 5) (v := .ref (ad 9)) (C := RX5) (T := TX5) (N := 5) hx hb hts jX5_mail_X5 hown hKw hP 0 cw_lt rfl 3 (by decide) (hts (.fieldLink RX5 25 "LendThreads" "post" "LLendThreads$Post;") (by decide +kernel)) (fun _ h9 => h9) rfl dX5_mail_21 ?_
      refine lv_iload_n hx hb dX5_mail_24 rfl (lv_at hl 1 rfl) ?_
      refine lv_iload_n hx hb dX5_mail_25 rfl (lv_at hl 2 rfl) ?_
      obtain ⟨q_7, hq_7, h⟩ := bi_some h
      refine vp_callSi (va_Run.run (va_runS (As := [.int p1, .int p2]) (rest := [.ref (ad 9)]) ⟨hx, hb, hml, hown, hts⟩ (k_X1_way l dC dI cI c9 ad hI M p1 p2 q_7 hq_7) (va_cwS 2 hts gX5_mail_X1_way rfl rfl rfl (by decide +kernel) ⟨Nat.le_of_ble_eq_true rfl, Nat.le_of_ble_eq_true rfl⟩) (gP_preS hKK hKw hP) rfl rfl hl.1 rfl (lv_room (Nat.le_of_ble_eq_true rfl)) dX5_mail_26 ⟨Nat.zero_le _, Nat.zero_le _⟩)) (fun r_8 hr_8 => ?_)
      replace hr_8 := hr_8.symm
      subst hr_8
      obtain ⟨q_9, hq_9, h⟩ := bi_some h
      refine vp_callSi (va_Run.run (va_runV (As := [.int q_7]) (rest := []) ⟨hx, hb, hml, hown, hts⟩ (k_X1_countThere l dC dI cI c9 ad hI M q_7 q_9 hq_9) (cwV 1 hts gX5_mail_X1_countThere rfl rfl rfl (by decide +kernel) ⟨Nat.le_of_ble_eq_true rfl, Nat.le_of_ble_eq_true rfl⟩) (gP_preV hKK hKw hP (va_recv hKw hP (ci := 1) (q0 := 9) rfl cw_post)) rfl rfl hl.1 rfl (lv_room (Nat.le_of_ble_eq_true rfl)) dX5_mail_29 ⟨Nat.zero_le _, Nat.zero_le _⟩)) (fun r_10 hr_10 => ?_)
      replace hr_10 := hr_10.symm
      subst hr_10
      replace h := Option.some.inj h
      subst h
      exact W.iret (v := q_9) hx hb hr (fun t ht hW => ⟨_, rfl, rfl, ht⟩) (fun _ h => by cases h) dX5_mail_32
    · rw [if_pos c_6] at h
      refine lv_bipush (v := (-2)) hx hb dX5_mail_17 (by decide) ?_
      replace h := Option.some.inj h
      subst h
      exact W.iret (v := (-2)) hx hb hr (fun t ht hW => ⟨_, rfl, rfl, ht⟩) (fun _ h => by cases h) dX5_mail_19
