def F_X6_in (M : Mem) (p0 : Int32) (p1 : Int32) (p2 : Int32) : Option (Int32) :=
  (if p0 < p1 then some 0 else (if p2 < p0 then some 0 else some 1))
set_option maxHeartbeats 4000000 in
set_option maxRecDepth 100000 in
theorem k_X6_in (l : Launch) (dC : Nat → ClassId) (dI : Nat → Nat → Nat) (cI cZ : ClassId) (am : Nat → Nat) (hI : Inj 24 am) (M : Mem) (p0 : Int32) (p1 : Int32) (p2 : Int32) (q : Int32) (h : F_X6_in M p0 p1 p2 = some q) : Met l yX6_in wsX6_in ({ frames := 0, cells := 0, slots := 0, locals := 0 }) (gm dC dI cI cZ am M [.int p0, .int p1, .int p2]) (vp_Si (fun x => x = q)) 0 0 (fun _ => False) := by
  refine Met.ofW (cc := cX6_in) (maxL := 3) (ret := (some .boolean)) (by decide) rfl ?_
  intro p e s m args below meth c s₁ B hml hv
  obtain ⟨rfl, hP, hKK, hKz⟩ := hv
  have hx := B.exec
  have hb := B.bytes
  have hr := B.returns
  have hts := atoms_spec (ws := wsX6_in) B.pre
  have hown : s.vm.findClass RX6 = some m.cls := findClass_of_methodNamed B.named
  have hlocks := B.notSynchronized
  have hl := lv_entry ([.int p0, .int p1, .int p2]) (n := 3) (Nat.le_of_ble_eq_true rfl)
  rw [lg_entry_eq]
  generalize (lg_sl ([.int p0, .int p1, .int p2]) ++ List.replicate (3 - (lg_sl ([.int p0, .int p1, .int p2])).length) Slot.unset).toArray = ls at hl ⊢
  have hl : lv_has ls 3 [(0, .int p0), (1, .int p1), (2, .int p2)] := hl
  unfold F_X6_in at h
  refine lv_iload_n hx hb dX6_in_0 rfl (lv_at hl 0 rfl) ?_
  refine lv_iload_n hx hb dX6_in_1 rfl (lv_at hl 1 rfl) ?_
  refine lv_icmp_lt (tgt := 14) hx hb dX6_in_2 (by decide) (fun c_1 => ?_) (fun c_1 => ?_)
  · rw [if_pos c_1] at h
    refine lv_iconst (v := 0) hx hb dX6_in_14 (by decide) ?_
    replace h := Option.some.inj h
    subst h
    exact W.zret (v := 0) (ty := .boolean) hx hb hr (by rfl) (fun t ht hW => ⟨_, rfl, rfl, ht⟩) (fun _ h => by cases h) dX6_in_15
  · rw [if_neg c_1] at h
    refine lv_iload_n hx hb dX6_in_5 rfl (lv_at hl 0 rfl) ?_
    refine lv_iload_n hx hb dX6_in_6 rfl (lv_at hl 2 rfl) ?_
    refine lv_icmp_gt (tgt := 14) hx hb dX6_in_7 (by decide) (fun c_2 => ?_) (fun c_2 => ?_)
    · rw [if_pos c_2] at h
      refine lv_iconst (v := 0) hx hb dX6_in_14 (by decide) ?_
      replace h := Option.some.inj h
      subst h
      exact W.zret (v := 0) (ty := .boolean) hx hb hr (by rfl) (fun t ht hW => ⟨_, rfl, rfl, ht⟩) (fun _ h => by cases h) dX6_in_15
    · rw [if_neg c_2] at h
      refine lv_iconst (v := 1) hx hb dX6_in_10 (by decide) ?_
      refine lv_goto (tgt := 15) hx hb dX6_in_11 (by decide) ?_
      replace h := Option.some.inj h
      subst h
      exact W.zret (v := 1) (ty := .boolean) hx hb hr (by rfl) (fun t ht hW => ⟨_, rfl, rfl, ht⟩) (fun _ h => by cases h) dX6_in_15
theorem jX6_isWork_X6 : ∀ w ∈ u_ws RX6 TX6 29, w ∈ wsX6_isWork := by decide +kernel
def F_X6_isWork (M : Mem) (p1 : Int32) : Option (Int32) :=
  bi (F_X6_in M p1 0 ((M 0 1) - 1)) fun q_1 => gd (bz q_1) <| some q_1
set_option maxHeartbeats 4000000 in
set_option maxRecDepth 100000 in
theorem k_X6_isWork (l : Launch) (dC : Nat → ClassId) (dI : Nat → Nat → Nat) (cI cZ : ClassId) (am : Nat → Nat) (hI : Inj 24 am) (M : Mem) (p1 : Int32) (q : Int32) (h : F_X6_isWork M p1 = some q) : Met l yX6_isWork wsX6_isWork ({ frames := 1, cells := 0, slots := 0, locals := 22 }) (gm dC dI cI cZ am M [.ref (am 0), .int p1]) (vp_Si (fun x => x = q)) 0 0 (fun _ => False) := by
  refine Met.ofW (cc := cX6_isWork) (maxL := 2) (ret := (some .boolean)) (by decide) rfl ?_
  intro p e s m args below meth c s₁ B hml hv
  obtain ⟨rfl, hP, hKK, hKz⟩ := hv
  have hx := B.exec
  have hb := B.bytes
  have hr := B.returns
  have hts := atoms_spec (ws := wsX6_isWork) B.pre
  have hown : s.vm.findClass RX6 = some m.cls := findClass_of_methodNamed B.named
  have hlocks := B.notSynchronized
  have hl := lv_entry ([.ref (am 0), .int p1]) (n := 2) (Nat.le_of_ble_eq_true rfl)
  rw [lg_entry_eq]
  generalize (lg_sl ([.ref (am 0), .int p1]) ++ List.replicate (2 - (lg_sl ([.ref (am 0), .int p1])).length) Slot.unset).toArray = ls at hl ⊢
  have hl : lv_has ls 2 [(0, .ref (am 0)), (1, .int p1)] := hl
  unfold F_X6_isWork at h
  refine lv_iload_n hx hb dX6_isWork_0 rfl (lv_at hl 1 rfl) ?_
  refine lv_iconst (v := 0) hx hb dX6_isWork_1 (by decide) ?_
  refine lv_aload_n hx hb dX6_isWork_2 rfl (lv_at hl 0 rfl) ?_
  refine va_get (D := (dC, dI)) (ci := 6) (v := .int (M 0 1)) (C := RX6) (T := TX6) (N := 29) hx hb hts jX6_isWork_X6 hown hKz hP 0 mw_0 rfl 1 (by decide) (hts (.fieldLink RX6 84 "LendThreadsModel" "works" "I") (by decide +kernel)) (fun _ h9 => h9) rfl dX6_isWork_3 ?_
  refine lv_iconst (v := 1) hx hb dX6_isWork_6 (by decide) ?_
  refine lv_isub hx hb dX6_isWork_7 ?_
  obtain ⟨q_1, hq_1, h⟩ := bi_some h
  refine vp_callSi (va_Run.run (va_runS (As := [.int p1, .int 0, .int ((M 0 1) - 1)]) (rest := []) ⟨hx, hb, hml, hown, hts⟩ (k_X6_in l dC dI cI cZ am hI M p1 0 ((M 0 1) - 1) q_1 hq_1) (va_cwS 3 hts gX6_isWork_X6_in rfl rfl rfl (by decide +kernel) ⟨Nat.le_of_ble_eq_true rfl, Nat.le_of_ble_eq_true rfl⟩) (gm_preS hKK hKz hP) rfl rfl hl.1 rfl (lv_room (Nat.le_of_ble_eq_true rfl)) dX6_isWork_8 ⟨Nat.zero_le _, Nat.zero_le _⟩)) (fun r_2 hr_2 => ?_)
  replace hr_2 := hr_2.symm
  subst hr_2
  obtain ⟨g_3, h⟩ := gd_some h
  replace h := Option.some.inj h
  subst h
  exact W.zret (v := q_1) (ty := .boolean) hx hb hr (bz_n g_3) (fun t ht hW => ⟨_, rfl, rfl, ht⟩) (fun _ h => by cases h) dX6_isWork_11
theorem jX6_isStep_X6 : ∀ w ∈ u_ws RX6 TX6 29, w ∈ wsX6_isStep := by decide +kernel
def F_X6_isStep (M : Mem) (p1 : Int32) (p2 : Int32) : Option (Int32) :=
  bi (F_X6_isWork M p1) fun q_1 => (if q_1 = 0 then some 0 else gd (inb p1 (lm 1)) <| bi (F_X6_in M p2 0 ((M 1 p1.toNatClampNeg) - 1)) fun q_5 => (if q_5 = 0 then some 0 else some 1))
set_option maxHeartbeats 4000000 in
set_option maxRecDepth 100000 in
theorem k_X6_isStep (l : Launch) (dC : Nat → ClassId) (dI : Nat → Nat → Nat) (cI cZ : ClassId) (am : Nat → Nat) (hI : Inj 24 am) (M : Mem) (p1 : Int32) (p2 : Int32) (q : Int32) (h : F_X6_isStep M p1 p2 = some q) : Met l yX6_isStep wsX6_isStep ({ frames := 2, cells := 0, slots := 0, locals := 43 }) (gm dC dI cI cZ am M [.ref (am 0), .int p1, .int p2]) (vp_Si (fun x => x = q)) 0 0 (fun _ => False) := by
  refine Met.ofW (cc := cX6_isStep) (maxL := 3) (ret := (some .boolean)) (by decide) rfl ?_
  intro p e s m args below meth c s₁ B hml hv
  obtain ⟨rfl, hP, hKK, hKz⟩ := hv
  have hx := B.exec
  have hb := B.bytes
  have hr := B.returns
  have hts := atoms_spec (ws := wsX6_isStep) B.pre
  have hown : s.vm.findClass RX6 = some m.cls := findClass_of_methodNamed B.named
  have hlocks := B.notSynchronized
  have hl := lv_entry ([.ref (am 0), .int p1, .int p2]) (n := 3) (Nat.le_of_ble_eq_true rfl)
  rw [lg_entry_eq]
  generalize (lg_sl ([.ref (am 0), .int p1, .int p2]) ++ List.replicate (3 - (lg_sl ([.ref (am 0), .int p1, .int p2])).length) Slot.unset).toArray = ls at hl ⊢
  have hl : lv_has ls 3 [(0, .ref (am 0)), (1, .int p1), (2, .int p2)] := hl
  unfold F_X6_isStep at h
  refine lv_aload_n hx hb dX6_isStep_0 rfl (lv_at hl 0 rfl) ?_
  refine lv_iload_n hx hb dX6_isStep_1 rfl (lv_at hl 1 rfl) ?_
  obtain ⟨q_1, hq_1, h⟩ := bi_some h
  refine vp_callSi (va_Run.run (va_runV (As := [.int p1]) (rest := []) ⟨hx, hb, hml, hown, hts⟩ (k_X6_isWork l dC dI cI cZ am hI M p1 q_1 hq_1) (cwV 1 hts gX6_isStep_X6_isWork rfl rfl rfl (by decide +kernel) ⟨Nat.le_of_ble_eq_true rfl, Nat.le_of_ble_eq_true rfl⟩) (gm_preV hKK hKz hP (va_recv hKz hP (ci := 6) (q0 := 0) rfl mw_0)) rfl rfl hl.1 rfl (lv_room (Nat.le_of_ble_eq_true rfl)) dX6_isStep_2 ⟨Nat.zero_le _, Nat.zero_le _⟩)) (fun r_2 hr_2 => ?_)
  replace hr_2 := hr_2.symm
  subst hr_2
  refine lv_if_eq (tgt := 28) hx hb dX6_isStep_5 (by decide) (fun c_3 => ?_) (fun c_3 => ?_)
  · rw [if_pos c_3] at h
    refine lv_iconst (v := 0) hx hb dX6_isStep_28 (by decide) ?_
    replace h := Option.some.inj h
    subst h
    exact W.zret (v := 0) (ty := .boolean) hx hb hr (by rfl) (fun t ht hW => ⟨_, rfl, rfl, ht⟩) (fun _ h => by cases h) dX6_isStep_29
  · rw [if_neg c_3] at h
    refine lv_iload_n hx hb dX6_isStep_8 rfl (lv_at hl 2 rfl) ?_
    refine lv_iconst (v := 0) hx hb dX6_isStep_9 (by decide) ?_
    refine lv_aload_n hx hb dX6_isStep_10 rfl (lv_at hl 0 rfl) ?_
    refine va_get (D := (dC, dI)) (ci := 6) (v := .ref (am 1)) (C := RX6) (T := TX6) (N := 29) hx hb hts jX6_isStep_X6 hown hKz hP 0 mw_0 rfl 2 (by decide) (hts (.fieldLink RX6 7 "LendThreadsModel" "steps" "[I") (by decide +kernel)) (fun _ h9 => h9) rfl dX6_isStep_11 ?_
    refine lv_iload_n hx hb dX6_isStep_14 rfl (lv_at hl 1 rfl) ?_
    obtain ⟨g_4, h⟩ := gd_some h
    refine va_iald hx hb hKz hP 1 0 (mw_arr (k := 1) (by decide) (by decide) (by decide)) rfl (inb_in g_4) dX6_isStep_15 ?_
    refine lv_iconst (v := 1) hx hb dX6_isStep_16 (by decide) ?_
    refine lv_isub hx hb dX6_isStep_17 ?_
    obtain ⟨q_5, hq_5, h⟩ := bi_some h
    refine vp_callSi (va_Run.run (va_runS (As := [.int p2, .int 0, .int ((M 1 p1.toNatClampNeg) - 1)]) (rest := []) ⟨hx, hb, hml, hown, hts⟩ (k_X6_in l dC dI cI cZ am hI M p2 0 ((M 1 p1.toNatClampNeg) - 1) q_5 hq_5) (va_cwS 3 hts gX6_isStep_X6_in rfl rfl rfl (by decide +kernel) ⟨Nat.le_of_ble_eq_true rfl, Nat.le_of_ble_eq_true rfl⟩) (gm_preS hKK hKz hP) rfl rfl hl.1 rfl (lv_room (Nat.le_of_ble_eq_true rfl)) dX6_isStep_18 ⟨Nat.zero_le _, Nat.zero_le _⟩)) (fun r_6 hr_6 => ?_)
    replace hr_6 := hr_6.symm
    subst hr_6
    refine lv_if_eq (tgt := 28) hx hb dX6_isStep_21 (by decide) (fun c_7 => ?_) (fun c_7 => ?_)
    · rw [if_pos c_7] at h
      refine lv_iconst (v := 0) hx hb dX6_isStep_28 (by decide) ?_
      replace h := Option.some.inj h
      subst h
      exact W.zret (v := 0) (ty := .boolean) hx hb hr (by rfl) (fun t ht hW => ⟨_, rfl, rfl, ht⟩) (fun _ h => by cases h) dX6_isStep_29
    · rw [if_neg c_7] at h
      refine lv_iconst (v := 1) hx hb dX6_isStep_24 (by decide) ?_
      refine lv_goto (tgt := 29) hx hb dX6_isStep_25 (by decide) ?_
      replace h := Option.some.inj h
      subst h
      exact W.zret (v := 1) (ty := .boolean) hx hb hr (by rfl) (fun t ht hW => ⟨_, rfl, rfl, ht⟩) (fun _ h => by cases h) dX6_isStep_29
theorem jX6_ahead_X6 : ∀ w ∈ u_ws RX6 TX6 29, w ∈ wsX6_ahead := by decide +kernel
def L_X6_ahead_5 (K : Int32 → Int32 → Option (Int32)) (M : Mem) (p1 : Int32) (p2 : Int32) : Nat → Int32 → Int32 → Option (Int32)
  | 0, _, _ => none
  | n + 1, v3_5, v4_5 => (if (M 0 1) ≤ v4_5 then K v3_5 v4_5 else (if v4_5 = p2 then L_X6_ahead_5 K M p1 p2 n (v3_5 + 0) (v4_5 + 1) else gd (inb v4_5 (lm 10)) <| (if (M 10 v4_5.toNatClampNeg) = (p1 + 1) then gd (inb p2 (lm 10)) <| (if (M 10 p2.toNatClampNeg) = (p1 + 1) then gd (inb v4_5 (lm 11)) <| gd (inb p2 (lm 11)) <| (if (M 11 p2.toNatClampNeg) ≤ (M 11 v4_5.toNatClampNeg) then L_X6_ahead_5 K M p1 p2 n (v3_5 + 0) (v4_5 + 1) else L_X6_ahead_5 K M p1 p2 n (v3_5 + 1) (v4_5 + 1)) else L_X6_ahead_5 K M p1 p2 n (v3_5 + 1) (v4_5 + 1)) else L_X6_ahead_5 K M p1 p2 n (v3_5 + 0) (v4_5 + 1))))
def F_X6_ahead (M : Mem) (p1 : Int32) (p2 : Int32) : Option (Int32) :=
  L_X6_ahead_5 (fun v3_5 v4_5 => some v3_5) M p1 p2 4000 0 0
set_option maxHeartbeats 4000000 in
set_option maxRecDepth 100000 in
theorem k_X6_ahead (l : Launch) (dC : Nat → ClassId) (dI : Nat → Nat → Nat) (cI cZ : ClassId) (am : Nat → Nat) (hI : Inj 24 am) (M : Mem) (p1 : Int32) (p2 : Int32) (q : Int32) (h : F_X6_ahead M p1 p2 = some q) : Met l yX6_ahead wsX6_ahead ({ frames := 0, cells := 0, slots := 0, locals := 0 }) (gm dC dI cI cZ am M [.ref (am 0), .int p1, .int p2]) (vp_Si (fun x => x = q)) 0 0 (fun _ => False) := by
  refine Met.ofW (cc := cX6_ahead) (maxL := 5) (ret := (some .int)) (by decide) rfl ?_
  intro p e s m args below meth c s₁ B hml hv
  obtain ⟨rfl, hP, hKK, hKz⟩ := hv
  have hx := B.exec
  have hb := B.bytes
  have hr := B.returns
  have hts := atoms_spec (ws := wsX6_ahead) B.pre
  have hown : s.vm.findClass RX6 = some m.cls := findClass_of_methodNamed B.named
  have hlocks := B.notSynchronized
  have hl := lv_entry ([.ref (am 0), .int p1, .int p2]) (n := 5) (Nat.le_of_ble_eq_true rfl)
  rw [lg_entry_eq]
  generalize (lg_sl ([.ref (am 0), .int p1, .int p2]) ++ List.replicate (5 - (lg_sl ([.ref (am 0), .int p1, .int p2])).length) Slot.unset).toArray = ls at hl ⊢
  have hl : lv_has ls 5 [(0, .ref (am 0)), (1, .int p1), (2, .int p2)] := hl
  unfold F_X6_ahead at h
  refine lv_iconst (v := 0) hx hb dX6_ahead_0 (by decide) ?_
  refine lv_istore_n (lv' := [(3, .int 0), (0, .ref (am 0)), (1, .int p1), (2, .int p2)]) hx hb dX6_ahead_1 rfl hl (by decide) rfl (fun ls hl => ?_)
  refine lv_iconst (v := 0) hx hb dX6_ahead_2 (by decide) ?_
  refine lv_istore (lv' := [(4, .int 0), (3, .int 0), (0, .ref (am 0)), (1, .int p1), (2, .int p2)]) hx hb dX6_ahead_3 hl (by decide) rfl (fun ls hl => ?_)
  have key5 : ∀ (K : Int32 → Int32 → Option (Int32)), (∀ (v3_5 v4_5 : Int32) (ls : Array Slot), K v3_5 v4_5 = some q → lv_has ls 5 [(4, .int v4_5), (3, .int v3_5), (0, .ref (am 0)), (1, .int p1), (2, .int p2)] → W p l e (headSpec wsX6_ahead ({ frames := 0, cells := 0, slots := 0, locals := 0 })).room s m ([.ref (am 0), .int p1, .int p2] : List Value).toArray below meth c s.heap [] 0 0 (MQ below (vp_Si (fun x => x = q)) ([.ref (am 0), .int p1, .int p2] : List Value).toArray s 0 0 (fun _ => False)) (F0 m 75 ls [])) → ∀ (n : Nat), ∀ (v3_5 v4_5 : Int32) (ls : Array Slot), L_X6_ahead_5 K M p1 p2 n v3_5 v4_5 = some q → lv_has ls 5 [(4, .int v4_5), (3, .int v3_5), (0, .ref (am 0)), (1, .int p1), (2, .int p2)] → W p l e (headSpec wsX6_ahead ({ frames := 0, cells := 0, slots := 0, locals := 0 })).room s m ([.ref (am 0), .int p1, .int p2] : List Value).toArray below meth c s.heap [] 0 0 (MQ below (vp_Si (fun x => x = q)) ([.ref (am 0), .int p1, .int p2] : List Value).toArray s 0 0 (fun _ => False)) (F0 m 5 ls []) := by
    intro K hk n
    induction n with
    | zero =>
      intro v3_5 v4_5 ls h
      exact absurd h (by simp [L_X6_ahead_5])
    | succ n ih =>
      intro v3_5 v4_5 ls h  hl
      simp only [L_X6_ahead_5] at h
      refine lv_iload hx hb dX6_ahead_5 (lv_at hl 0 rfl) ?_
      refine lv_aload_n hx hb dX6_ahead_7 rfl (lv_at hl 2 rfl) ?_
      refine va_get (D := (dC, dI)) (ci := 6) (v := .int (M 0 1)) (C := RX6) (T := TX6) (N := 29) hx hb hts jX6_ahead_X6 hown hKz hP 0 mw_0 rfl 1 (by decide) (hts (.fieldLink RX6 84 "LendThreadsModel" "works" "I") (by decide +kernel)) (fun _ h9 => h9) rfl dX6_ahead_8 ?_
      refine lv_icmp_ge (tgt := 75) hx hb dX6_ahead_11 (by decide) (fun c_1 => ?_) (fun c_1 => ?_)
      · rw [if_pos c_1] at h
        exact hk v3_5 v4_5 _ h (lv_sub hl [0, 1, 2, 3, 4] rfl)
      · rw [if_neg c_1] at h
        refine lv_iload_n hx hb dX6_ahead_14 rfl (lv_at hl 1 rfl) ?_
        refine lv_iload hx hb dX6_ahead_15 (lv_at hl 0 rfl) ?_
        refine lv_iload_n hx hb dX6_ahead_17 rfl (lv_at hl 4 rfl) ?_
        refine lv_icmp_eq (tgt := 66) hx hb dX6_ahead_18 (by decide) (fun c_2 => ?_) (fun c_2 => ?_)
        · rw [if_pos c_2] at h
          refine lv_iconst (v := 0) hx hb dX6_ahead_66 (by decide) ?_
          refine lv_iadd hx hb dX6_ahead_67 ?_
          refine lv_istore_n (lv' := [(3, .int (v3_5 + 0)), (4, .int v4_5), (0, .ref (am 0)), (1, .int p1), (2, .int p2)]) hx hb dX6_ahead_68 rfl hl (by decide) rfl (fun ls hl => ?_)
          refine lv_iinc (v := v4_5 + 1) (lv' := [(4, .int (v4_5 + 1)), (3, .int (v3_5 + 0)), (0, .ref (am 0)), (1, .int p1), (2, .int p2)]) hx hb dX6_ahead_69 hl (k := 1) rfl rfl (by decide) rfl (fun ls hl => ?_)
          refine lv_goto (tgt := 5) hx hb dX6_ahead_72 (by decide) ?_
          exact ih (v3_5 + 0) (v4_5 + 1) _ h (lv_sub hl [0, 1, 2, 3, 4] rfl)
        · rw [if_neg c_2] at h
          refine lv_aload_n hx hb dX6_ahead_21 rfl (lv_at hl 2 rfl) ?_
          refine va_get (D := (dC, dI)) (ci := 6) (v := .ref (am 10)) (C := RX6) (T := TX6) (N := 29) hx hb hts jX6_ahead_X6 hown hKz hP 0 mw_0 rfl 11 (by decide) (hts (.fieldLink RX6 38 "LendThreadsModel" "waitsFor" "[I") (by decide +kernel)) (fun _ h9 => h9) rfl dX6_ahead_22 ?_
          refine lv_iload hx hb dX6_ahead_25 (lv_at hl 0 rfl) ?_
          obtain ⟨g_3, h⟩ := gd_some h
          refine va_iald hx hb hKz hP 10 0 (mw_arr (k := 10) (by decide) (by decide) (by decide)) rfl (inb_in g_3) dX6_ahead_27 ?_
          refine lv_iload_n hx hb dX6_ahead_28 rfl (lv_at hl 3 rfl) ?_
          refine lv_iconst (v := 1) hx hb dX6_ahead_29 (by decide) ?_
          refine lv_iadd hx hb dX6_ahead_30 ?_
          refine lv_icmp_ne (tgt := 66) hx hb dX6_ahead_31 (by decide) (fun c_4 => ?_) (fun c_4 => ?_)
          · rw [if_neg c_4] at h
            refine lv_iconst (v := 0) hx hb dX6_ahead_66 (by decide) ?_
            refine lv_iadd hx hb dX6_ahead_67 ?_
            refine lv_istore_n (lv' := [(3, .int (v3_5 + 0)), (4, .int v4_5), (0, .ref (am 0)), (1, .int p1), (2, .int p2)]) hx hb dX6_ahead_68 rfl hl (by decide) rfl (fun ls hl => ?_)
            refine lv_iinc (v := v4_5 + 1) (lv' := [(4, .int (v4_5 + 1)), (3, .int (v3_5 + 0)), (0, .ref (am 0)), (1, .int p1), (2, .int p2)]) hx hb dX6_ahead_69 hl (k := 1) rfl rfl (by decide) rfl (fun ls hl => ?_)
            refine lv_goto (tgt := 5) hx hb dX6_ahead_72 (by decide) ?_
            exact ih (v3_5 + 0) (v4_5 + 1) _ h (lv_sub hl [0, 1, 2, 3, 4] rfl)
          · rw [if_pos c_4] at h
            refine lv_aload_n hx hb dX6_ahead_34 rfl (lv_at hl 2 rfl) ?_
            refine va_get (D := (dC, dI)) (ci := 6) (v := .ref (am 10)) (C := RX6) (T := TX6) (N := 29) hx hb hts jX6_ahead_X6 hown hKz hP 0 mw_0 rfl 11 (by decide) (hts (.fieldLink RX6 38 "LendThreadsModel" "waitsFor" "[I") (by decide +kernel)) (fun _ h9 => h9) rfl dX6_ahead_35 ?_
            refine lv_iload_n hx hb dX6_ahead_38 rfl (lv_at hl 4 rfl) ?_
            obtain ⟨g_5, h⟩ := gd_some h
            refine va_iald hx hb hKz hP 10 0 (mw_arr (k := 10) (by decide) (by decide) (by decide)) rfl (inb_in g_5) dX6_ahead_39 ?_
            refine lv_iload_n hx hb dX6_ahead_40 rfl (lv_at hl 3 rfl) ?_
            refine lv_iconst (v := 1) hx hb dX6_ahead_41 (by decide) ?_
            refine lv_iadd hx hb dX6_ahead_42 ?_
            refine lv_icmp_ne (tgt := 62) hx hb dX6_ahead_43 (by decide) (fun c_6 => ?_) (fun c_6 => ?_)
            · rw [if_neg c_6] at h
              refine lv_iconst (v := 1) hx hb dX6_ahead_62 (by decide) ?_
              refine lv_goto (tgt := 67) hx hb dX6_ahead_63 (by decide) ?_
              refine lv_iadd hx hb dX6_ahead_67 ?_
              refine lv_istore_n (lv' := [(3, .int (v3_5 + 1)), (4, .int v4_5), (0, .ref (am 0)), (1, .int p1), (2, .int p2)]) hx hb dX6_ahead_68 rfl hl (by decide) rfl (fun ls hl => ?_)
              refine lv_iinc (v := v4_5 + 1) (lv' := [(4, .int (v4_5 + 1)), (3, .int (v3_5 + 1)), (0, .ref (am 0)), (1, .int p1), (2, .int p2)]) hx hb dX6_ahead_69 hl (k := 1) rfl rfl (by decide) rfl (fun ls hl => ?_)
              refine lv_goto (tgt := 5) hx hb dX6_ahead_72 (by decide) ?_
              exact ih (v3_5 + 1) (v4_5 + 1) _ h (lv_sub hl [0, 1, 2, 3, 4] rfl)
            · rw [if_pos c_6] at h
              refine lv_aload_n hx hb dX6_ahead_46 rfl (lv_at hl 2 rfl) ?_
              refine va_get (D := (dC, dI)) (ci := 6) (v := .ref (am 11)) (C := RX6) (T := TX6) (N := 29) hx hb hts jX6_ahead_X6 hown hKz hP 0 mw_0 rfl 12 (by decide) (hts (.fieldLink RX6 41 "LendThreadsModel" "since" "[I") (by decide +kernel)) (fun _ h9 => h9) rfl dX6_ahead_47 ?_
              refine lv_iload hx hb dX6_ahead_50 (lv_at hl 0 rfl) ?_
              obtain ⟨g_7, h⟩ := gd_some h
              refine va_iald hx hb hKz hP 11 0 (mw_arr (k := 11) (by decide) (by decide) (by decide)) rfl (inb_in g_7) dX6_ahead_52 ?_
              refine lv_aload_n hx hb dX6_ahead_53 rfl (lv_at hl 2 rfl) ?_
              refine va_get (D := (dC, dI)) (ci := 6) (v := .ref (am 11)) (C := RX6) (T := TX6) (N := 29) hx hb hts jX6_ahead_X6 hown hKz hP 0 mw_0 rfl 12 (by decide) (hts (.fieldLink RX6 41 "LendThreadsModel" "since" "[I") (by decide +kernel)) (fun _ h9 => h9) rfl dX6_ahead_54 ?_
              refine lv_iload_n hx hb dX6_ahead_57 rfl (lv_at hl 4 rfl) ?_
              obtain ⟨g_8, h⟩ := gd_some h
              refine va_iald hx hb hKz hP 11 0 (mw_arr (k := 11) (by decide) (by decide) (by decide)) rfl (inb_in g_8) dX6_ahead_58 ?_
              refine lv_icmp_ge (tgt := 66) hx hb dX6_ahead_59 (by decide) (fun c_9 => ?_) (fun c_9 => ?_)
              · rw [if_pos c_9] at h
                refine lv_iconst (v := 0) hx hb dX6_ahead_66 (by decide) ?_
                refine lv_iadd hx hb dX6_ahead_67 ?_
                refine lv_istore_n (lv' := [(3, .int (v3_5 + 0)), (4, .int v4_5), (0, .ref (am 0)), (1, .int p1), (2, .int p2)]) hx hb dX6_ahead_68 rfl hl (by decide) rfl (fun ls hl => ?_)
                refine lv_iinc (v := v4_5 + 1) (lv' := [(4, .int (v4_5 + 1)), (3, .int (v3_5 + 0)), (0, .ref (am 0)), (1, .int p1), (2, .int p2)]) hx hb dX6_ahead_69 hl (k := 1) rfl rfl (by decide) rfl (fun ls hl => ?_)
                refine lv_goto (tgt := 5) hx hb dX6_ahead_72 (by decide) ?_
                exact ih (v3_5 + 0) (v4_5 + 1) _ h (lv_sub hl [0, 1, 2, 3, 4] rfl)
              · rw [if_neg c_9] at h
                refine lv_iconst (v := 1) hx hb dX6_ahead_62 (by decide) ?_
                refine lv_goto (tgt := 67) hx hb dX6_ahead_63 (by decide) ?_
                refine lv_iadd hx hb dX6_ahead_67 ?_
                refine lv_istore_n (lv' := [(3, .int (v3_5 + 1)), (4, .int v4_5), (0, .ref (am 0)), (1, .int p1), (2, .int p2)]) hx hb dX6_ahead_68 rfl hl (by decide) rfl (fun ls hl => ?_)
                refine lv_iinc (v := v4_5 + 1) (lv' := [(4, .int (v4_5 + 1)), (3, .int (v3_5 + 1)), (0, .ref (am 0)), (1, .int p1), (2, .int p2)]) hx hb dX6_ahead_69 hl (k := 1) rfl rfl (by decide) rfl (fun ls hl => ?_)
                refine lv_goto (tgt := 5) hx hb dX6_ahead_72 (by decide) ?_
                exact ih (v3_5 + 1) (v4_5 + 1) _ h (lv_sub hl [0, 1, 2, 3, 4] rfl)
  refine key5 _ (fun v3_5 v4_5 ls h  hl => ?_) 4000 0 0 _ h (lv_sub hl [0, 1, 2, 3, 4] rfl)
  try dsimp only at h
  refine lv_iload_n hx hb dX6_ahead_75 rfl (lv_at hl 1 rfl) ?_
  replace h := Option.some.inj h
  subst h
  exact W.iret (v := v3_5) hx hb hr (fun t ht hW => ⟨_, rfl, rfl, ht⟩) (fun _ h => by cases h) dX6_ahead_76
theorem jX6_takes_X6 : ∀ w ∈ u_ws RX6 TX6 29, w ∈ wsX6_takes := by decide +kernel
def F_X6_takes (M : Mem) (p1 : Int32) (p2 : Int32) : Option (Int32 × Mem) :=
  gd (inb p2 (lm 16)) <| (if (M 16 p2.toNatClampNeg) = (p1 + 1) then gd (inb p2 (lm 16)) <| bm (up2 M 16 p2.toNatClampNeg (p1 + 1)) fun M_4 => gd (inb p1 (lm 10)) <| bm (up2 M_4 10 p1.toNatClampNeg 0) fun M_6 => gd (inb p1 (lm 5)) <| gd (inb p1 (lm 5)) <| bm (up2 M_6 5 p1.toNatClampNeg ((M_6 5 p1.toNatClampNeg) + 1)) fun M_9 => some (1, M_9) else gd (inb p2 (lm 16)) <| (if (M 16 p2.toNatClampNeg) = 0 then bi (F_X6_ahead M p2 p1) fun q_19 => (if q_19 = 0 then gd (inb p2 (lm 16)) <| bm (up2 M 16 p2.toNatClampNeg (p1 + 1)) fun M_30 => gd (inb p1 (lm 10)) <| bm (up2 M_30 10 p1.toNatClampNeg 0) fun M_32 => gd (inb p1 (lm 5)) <| gd (inb p1 (lm 5)) <| bm (up2 M_32 5 p1.toNatClampNeg ((M_32 5 p1.toNatClampNeg) + 1)) fun M_35 => some (1, M_35) else gd (inb p1 (lm 10)) <| (if (M 10 p1.toNatClampNeg) = (p2 + 1) then some (3, M) else gd (inb p1 (lm 10)) <| bm (up2 M 10 p1.toNatClampNeg (p2 + 1)) fun M_25 => gd (inb p1 (lm 11)) <| bm (up2 M_25 11 p1.toNatClampNeg (M_25 0 13)) fun M_27 => bm (up2 M_27 0 13 ((M_27 0 13) + 1)) fun M_28 => some (3, M_28))) else gd (inb p1 (lm 10)) <| (if (M 10 p1.toNatClampNeg) = (p2 + 1) then some (3, M) else gd (inb p1 (lm 10)) <| bm (up2 M 10 p1.toNatClampNeg (p2 + 1)) fun M_15 => gd (inb p1 (lm 11)) <| bm (up2 M_15 11 p1.toNatClampNeg (M_15 0 13)) fun M_17 => bm (up2 M_17 0 13 ((M_17 0 13) + 1)) fun M_18 => some (3, M_18))))
set_option maxHeartbeats 4000000 in
set_option maxRecDepth 100000 in
theorem k_X6_takes (l : Launch) (dC : Nat → ClassId) (dI : Nat → Nat → Nat) (cI cZ : ClassId) (am : Nat → Nat) (hI : Inj 24 am) (M : Mem) (p1 : Int32) (p2 : Int32) (q : Int32 × Mem) (h : F_X6_takes M p1 p2 = some q) : Met l yX6_takes wsX6_takes ({ frames := 1, cells := 0, slots := 0, locals := 24 }) (gm dC dI cI cZ am M [.ref (am 0), .int p1, .int p2]) (va_Qi (fun x M' => x = q.1 ∧ M' = q.2) (fun M' t => va_P (dC, dI) vwCl (mW cI cZ am M') t.heap) (Ac 24 am)) 0 0 (Ac 24 am) := by
  refine Met.ofW (cc := cX6_takes) (maxL := 3) (ret := (some .int)) (by decide) rfl ?_
  intro p e s m args below meth c s₁ B hml hv
  obtain ⟨rfl, hP, hKK, hKz⟩ := hv
  have hx := B.exec
  have hb := B.bytes
  have hr := B.returns
  have hts := atoms_spec (ws := wsX6_takes) B.pre
  have hown : s.vm.findClass RX6 = some m.cls := findClass_of_methodNamed B.named
  have hlocks := B.notSynchronized
  have hD := cwl_D hI (encM cI cZ am M)
  have hS : va_S (Ac 24 am) s.heap s.heap [] := va_S.rf
  have hl := lv_entry ([.ref (am 0), .int p1, .int p2]) (n := 3) (Nat.le_of_ble_eq_true rfl)
  rw [lg_entry_eq]
  generalize (lg_sl ([.ref (am 0), .int p1, .int p2]) ++ List.replicate (3 - (lg_sl ([.ref (am 0), .int p1, .int p2])).length) Slot.unset).toArray = ls at hl ⊢
  have hl : lv_has ls 3 [(0, .ref (am 0)), (1, .int p1), (2, .int p2)] := hl
  unfold F_X6_takes at h
  refine lv_aload_n hx hb dX6_takes_0 rfl (lv_at hl 0 rfl) ?_
  refine va_get (D := (dC, dI)) (ci := 6) (v := .ref (am 16)) (C := RX6) (T := TX6) (N := 29) hx hb hts jX6_takes_X6 hown hKz hP 0 mw_0 rfl 18 (by decide) (hts (.fieldLink RX6 56 "LendThreadsModel" "owner" "[I") (by decide +kernel)) (fun _ h9 => h9) rfl dX6_takes_1 ?_
  refine lv_iload_n hx hb dX6_takes_4 rfl (lv_at hl 2 rfl) ?_
  obtain ⟨g_1, h⟩ := gd_some h
  refine va_iald hx hb hKz hP 16 0 (mw_arr (k := 16) (by decide) (by decide) (by decide)) rfl (inb_in g_1) dX6_takes_5 ?_
  refine lv_iload_n hx hb dX6_takes_6 rfl (lv_at hl 1 rfl) ?_
  refine lv_iconst (v := 1) hx hb dX6_takes_7 (by decide) ?_
  refine lv_iadd hx hb dX6_takes_8 ?_
  refine lv_icmp_eq (tgt := 30) hx hb dX6_takes_9 (by decide) (fun c_2 => ?_) (fun c_2 => ?_)
  · rw [if_pos c_2] at h
    refine lv_aload_n hx hb dX6_takes_30 rfl (lv_at hl 0 rfl) ?_
    refine va_get (D := (dC, dI)) (ci := 6) (v := .ref (am 16)) (C := RX6) (T := TX6) (N := 29) hx hb hts jX6_takes_X6 hown hKz hP 0 mw_0 rfl 18 (by decide) (hts (.fieldLink RX6 56 "LendThreadsModel" "owner" "[I") (by decide +kernel)) (fun _ h9 => h9) rfl dX6_takes_31 ?_
    refine lv_iload_n hx hb dX6_takes_34 rfl (lv_at hl 2 rfl) ?_
    refine lv_iload_n hx hb dX6_takes_35 rfl (lv_at hl 1 rfl) ?_
    refine lv_iconst (v := 1) hx hb dX6_takes_36 (by decide) ?_
    refine lv_iadd hx hb dX6_takes_37 ?_
    obtain ⟨g_3, h⟩ := gd_some h
    refine va_iast hx hb hKz hP hD hS 16 0 (mw_arr (k := 16) (by decide) (by decide) (by decide)) rfl (inb_in g_3) dX6_takes_38 (fun H locs hP _ hS => ?_)
    have hP : va_P (dC, dI) vwCl (mW cI cZ am (up2 M 16 p2.toNatClampNeg (p1 + 1))) H := by show va_P (dC, dI) vwCl (cwl 24 am (encM cI cZ am (up2 M 16 p2.toNatClampNeg (p1 + 1)))) H; rw [← em_arr (k := 16) (by decide) (by decide), ← cwl_set (by decide)]; exact hP
    have hD := cwl_D hI (encM cI cZ am (up2 M 16 p2.toNatClampNeg (p1 + 1)))
    generalize up2 M 16 p2.toNatClampNeg (p1 + 1) = M_4 at hP hD h
    replace h := bm_e h
    try dsimp only at h
    refine lv_aload_n hx hb dX6_takes_39 rfl (lv_at hl 0 rfl) ?_
    refine va_get (D := (dC, dI)) (ci := 6) (v := .ref (am 10)) (C := RX6) (T := TX6) (N := 29) hx hb hts jX6_takes_X6 hown hKz hP 0 mw_0 rfl 11 (by decide) (hts (.fieldLink RX6 38 "LendThreadsModel" "waitsFor" "[I") (by decide +kernel)) (fun _ h9 => h9) rfl dX6_takes_40 ?_
    refine lv_iload_n hx hb dX6_takes_43 rfl (lv_at hl 1 rfl) ?_
    refine lv_iconst (v := 0) hx hb dX6_takes_44 (by decide) ?_
    obtain ⟨g_5, h⟩ := gd_some h
    refine va_iast hx hb hKz hP hD hS 10 0 (mw_arr (k := 10) (by decide) (by decide) (by decide)) rfl (inb_in g_5) dX6_takes_45 (fun H locs hP _ hS => ?_)
    have hP : va_P (dC, dI) vwCl (mW cI cZ am (up2 M_4 10 p1.toNatClampNeg 0)) H := by show va_P (dC, dI) vwCl (cwl 24 am (encM cI cZ am (up2 M_4 10 p1.toNatClampNeg 0))) H; rw [← em_arr (k := 10) (by decide) (by decide), ← cwl_set (by decide)]; exact hP
    have hD := cwl_D hI (encM cI cZ am (up2 M_4 10 p1.toNatClampNeg 0))
    generalize up2 M_4 10 p1.toNatClampNeg 0 = M_6 at hP hD h
    replace h := bm_e h
    try dsimp only at h
    refine lv_aload_n hx hb dX6_takes_46 rfl (lv_at hl 0 rfl) ?_
    refine va_get (D := (dC, dI)) (ci := 6) (v := .ref (am 5)) (C := RX6) (T := TX6) (N := 29) hx hb hts jX6_takes_X6 hown hKz hP 0 mw_0 rfl 6 (by decide) (hts (.fieldLink RX6 22 "LendThreadsModel" "got" "[I") (by decide +kernel)) (fun _ h9 => h9) rfl dX6_takes_47 ?_
    refine lv_iload_n hx hb dX6_takes_50 rfl (lv_at hl 1 rfl) ?_
    refine lv_dup2_11 hx hb dX6_takes_51 rfl rfl ?_
    obtain ⟨g_7, h⟩ := gd_some h
    refine va_iald hx hb hKz hP 5 0 (mw_arr (k := 5) (by decide) (by decide) (by decide)) rfl (inb_in g_7) dX6_takes_52 ?_
    refine lv_iconst (v := 1) hx hb dX6_takes_53 (by decide) ?_
    refine lv_iadd hx hb dX6_takes_54 ?_
    obtain ⟨g_8, h⟩ := gd_some h
    refine va_iast hx hb hKz hP hD hS 5 0 (mw_arr (k := 5) (by decide) (by decide) (by decide)) rfl (inb_in g_8) dX6_takes_55 (fun H locs hP _ hS => ?_)
    have hP : va_P (dC, dI) vwCl (mW cI cZ am (up2 M_6 5 p1.toNatClampNeg ((M_6 5 p1.toNatClampNeg) + 1))) H := by show va_P (dC, dI) vwCl (cwl 24 am (encM cI cZ am (up2 M_6 5 p1.toNatClampNeg ((M_6 5 p1.toNatClampNeg) + 1)))) H; rw [← em_arr (k := 5) (by decide) (by decide), ← cwl_set (by decide)]; exact hP
    have hD := cwl_D hI (encM cI cZ am (up2 M_6 5 p1.toNatClampNeg ((M_6 5 p1.toNatClampNeg) + 1)))
    generalize up2 M_6 5 p1.toNatClampNeg ((M_6 5 p1.toNatClampNeg) + 1) = M_9 at hP hD h
    replace h := bm_e h
    try dsimp only at h
    refine lv_iconst (v := 1) hx hb dX6_takes_56 (by decide) ?_
    replace h := Option.some.inj h
    subst h
    exact W.iret (v := 1) hx hb hr (fun t ht hW => ⟨⟨_, _, rfl, ⟨rfl, rfl⟩, (show va_P (dC, dI) vwCl (mW cI cZ am M_9) t.heap by rw [ht]; exact hP)⟩, hS.F ht⟩) hS.2.2 dX6_takes_57
  · rw [if_neg c_2] at h
    refine lv_aload_n hx hb dX6_takes_12 rfl (lv_at hl 0 rfl) ?_
    refine va_get (D := (dC, dI)) (ci := 6) (v := .ref (am 16)) (C := RX6) (T := TX6) (N := 29) hx hb hts jX6_takes_X6 hown hKz hP 0 mw_0 rfl 18 (by decide) (hts (.fieldLink RX6 56 "LendThreadsModel" "owner" "[I") (by decide +kernel)) (fun _ h9 => h9) rfl dX6_takes_13 ?_
    refine lv_iload_n hx hb dX6_takes_16 rfl (lv_at hl 2 rfl) ?_
    obtain ⟨g_10, h⟩ := gd_some h
    refine va_iald hx hb hKz hP 16 0 (mw_arr (k := 16) (by decide) (by decide) (by decide)) rfl (inb_in g_10) dX6_takes_17 ?_
    refine lv_if_ne (tgt := 58) hx hb dX6_takes_18 (by decide) (fun c_11 => ?_) (fun c_11 => ?_)
    · rw [if_neg c_11] at h
      refine lv_aload_n hx hb dX6_takes_58 rfl (lv_at hl 0 rfl) ?_
      refine va_get (D := (dC, dI)) (ci := 6) (v := .ref (am 10)) (C := RX6) (T := TX6) (N := 29) hx hb hts jX6_takes_X6 hown hKz hP 0 mw_0 rfl 11 (by decide) (hts (.fieldLink RX6 38 "LendThreadsModel" "waitsFor" "[I") (by decide +kernel)) (fun _ h9 => h9) rfl dX6_takes_59 ?_
      refine lv_iload_n hx hb dX6_takes_62 rfl (lv_at hl 1 rfl) ?_
      obtain ⟨g_12, h⟩ := gd_some h
      refine va_iald hx hb hKz hP 10 0 (mw_arr (k := 10) (by decide) (by decide) (by decide)) rfl (inb_in g_12) dX6_takes_63 ?_
      refine lv_iload_n hx hb dX6_takes_64 rfl (lv_at hl 2 rfl) ?_
      refine lv_iconst (v := 1) hx hb dX6_takes_65 (by decide) ?_
      refine lv_iadd hx hb dX6_takes_66 ?_
      refine lv_icmp_eq (tgt := 99) hx hb dX6_takes_67 (by decide) (fun c_13 => ?_) (fun c_13 => ?_)
      · rw [if_pos c_13] at h
        refine lv_iconst (v := 3) hx hb dX6_takes_99 (by decide) ?_
        replace h := Option.some.inj h
        subst h
        exact W.iret (v := 3) hx hb hr (fun t ht hW => ⟨⟨_, _, rfl, ⟨rfl, rfl⟩, (show va_P (dC, dI) vwCl (mW cI cZ am M) t.heap by rw [ht]; exact hP)⟩, hS.F ht⟩) hS.2.2 dX6_takes_100
      · rw [if_neg c_13] at h
        refine lv_aload_n hx hb dX6_takes_70 rfl (lv_at hl 0 rfl) ?_
        refine va_get (D := (dC, dI)) (ci := 6) (v := .ref (am 10)) (C := RX6) (T := TX6) (N := 29) hx hb hts jX6_takes_X6 hown hKz hP 0 mw_0 rfl 11 (by decide) (hts (.fieldLink RX6 38 "LendThreadsModel" "waitsFor" "[I") (by decide +kernel)) (fun _ h9 => h9) rfl dX6_takes_71 ?_
        refine lv_iload_n hx hb dX6_takes_74 rfl (lv_at hl 1 rfl) ?_
        refine lv_iload_n hx hb dX6_takes_75 rfl (lv_at hl 2 rfl) ?_
        refine lv_iconst (v := 1) hx hb dX6_takes_76 (by decide) ?_
        refine lv_iadd hx hb dX6_takes_77 ?_
        obtain ⟨g_14, h⟩ := gd_some h
        refine va_iast hx hb hKz hP hD hS 10 0 (mw_arr (k := 10) (by decide) (by decide) (by decide)) rfl (inb_in g_14) dX6_takes_78 (fun H locs hP _ hS => ?_)
        have hP : va_P (dC, dI) vwCl (mW cI cZ am (up2 M 10 p1.toNatClampNeg (p2 + 1))) H := by show va_P (dC, dI) vwCl (cwl 24 am (encM cI cZ am (up2 M 10 p1.toNatClampNeg (p2 + 1)))) H; rw [← em_arr (k := 10) (by decide) (by decide), ← cwl_set (by decide)]; exact hP
        have hD := cwl_D hI (encM cI cZ am (up2 M 10 p1.toNatClampNeg (p2 + 1)))
        generalize up2 M 10 p1.toNatClampNeg (p2 + 1) = M_15 at hP hD h
        replace h := bm_e h
        try dsimp only at h
        refine lv_aload_n hx hb dX6_takes_79 rfl (lv_at hl 0 rfl) ?_
        refine va_get (D := (dC, dI)) (ci := 6) (v := .ref (am 11)) (C := RX6) (T := TX6) (N := 29) hx hb hts jX6_takes_X6 hown hKz hP 0 mw_0 rfl 12 (by decide) (hts (.fieldLink RX6 41 "LendThreadsModel" "since" "[I") (by decide +kernel)) (fun _ h9 => h9) rfl dX6_takes_80 ?_
        refine lv_iload_n hx hb dX6_takes_83 rfl (lv_at hl 1 rfl) ?_
        refine lv_aload_n hx hb dX6_takes_84 rfl (lv_at hl 0 rfl) ?_
        refine va_get (D := (dC, dI)) (ci := 6) (v := .int (M_15 0 13)) (C := RX6) (T := TX6) (N := 29) hx hb hts jX6_takes_X6 hown hKz hP 0 mw_0 rfl 13 (by decide) (hts (.fieldLink RX6 106 "LendThreadsModel" "clock" "I") (by decide +kernel)) (fun _ h9 => h9) rfl dX6_takes_85 ?_
        obtain ⟨g_16, h⟩ := gd_some h
        refine va_iast hx hb hKz hP hD hS 11 0 (mw_arr (k := 11) (by decide) (by decide) (by decide)) rfl (inb_in g_16) dX6_takes_88 (fun H locs hP _ hS => ?_)
        have hP : va_P (dC, dI) vwCl (mW cI cZ am (up2 M_15 11 p1.toNatClampNeg (M_15 0 13))) H := by show va_P (dC, dI) vwCl (cwl 24 am (encM cI cZ am (up2 M_15 11 p1.toNatClampNeg (M_15 0 13)))) H; rw [← em_arr (k := 11) (by decide) (by decide), ← cwl_set (by decide)]; exact hP
        have hD := cwl_D hI (encM cI cZ am (up2 M_15 11 p1.toNatClampNeg (M_15 0 13)))
        generalize up2 M_15 11 p1.toNatClampNeg (M_15 0 13) = M_17 at hP hD h
        replace h := bm_e h
        try dsimp only at h
        refine lv_aload_n hx hb dX6_takes_89 rfl (lv_at hl 0 rfl) ?_
        refine lv_dup hx hb dX6_takes_90 rfl ?_
        refine va_get (D := (dC, dI)) (ci := 6) (v := .int (M_17 0 13)) (C := RX6) (T := TX6) (N := 29) hx hb hts jX6_takes_X6 hown hKz hP 0 mw_0 rfl 13 (by decide) (hts (.fieldLink RX6 106 "LendThreadsModel" "clock" "I") (by decide +kernel)) (fun _ h9 => h9) rfl dX6_takes_91 ?_
        refine lv_iconst (v := 1) hx hb dX6_takes_94 (by decide) ?_
        refine lv_iadd hx hb dX6_takes_95 ?_
        refine va_put (D := (dC, dI)) (ci := 6) (v := .int ((M_17 0 13) + 1)) (ty := .int) (C := RX6) (T := TX6) (N := 29) hx hb hts jX6_takes_X6 tyX6 tyX6_ok nmX6 hown hKz hP hD hS 0 mw_0 rfl 13 (by decide) (hts (.fieldLink RX6 106 "LendThreadsModel" "clock" "I") (by decide +kernel)) (fun _ h9 => h9) rfl (by decide +kernel) rfl rfl (Nat.le_of_ble_eq_true rfl) dX6_takes_96 (fun H locs hP _ hS => ?_)
        have hP : va_P (dC, dI) vwCl (mW cI cZ am (up2 M_17 0 13 ((M_17 0 13) + 1))) H := by show va_P (dC, dI) vwCl (cwl 24 am (encM cI cZ am (up2 M_17 0 13 ((M_17 0 13) + 1)))) H; rw [← em_clock, ← cwl_set (by decide)]; exact hP
        have hD := cwl_D hI (encM cI cZ am (up2 M_17 0 13 ((M_17 0 13) + 1)))
        generalize up2 M_17 0 13 ((M_17 0 13) + 1) = M_18 at hP hD h
        replace h := bm_e h
        try dsimp only at h
        refine lv_iconst (v := 3) hx hb dX6_takes_99 (by decide) ?_
        replace h := Option.some.inj h
        subst h
        exact W.iret (v := 3) hx hb hr (fun t ht hW => ⟨⟨_, _, rfl, ⟨rfl, rfl⟩, (show va_P (dC, dI) vwCl (mW cI cZ am M_18) t.heap by rw [ht]; exact hP)⟩, hS.F ht⟩) hS.2.2 dX6_takes_100
    · rw [if_pos c_11] at h
      refine lv_aload_n hx hb dX6_takes_21 rfl (lv_at hl 0 rfl) ?_
      refine lv_iload_n hx hb dX6_takes_22 rfl (lv_at hl 2 rfl) ?_
      refine lv_iload_n hx hb dX6_takes_23 rfl (lv_at hl 1 rfl) ?_
      obtain ⟨q_19, hq_19, h⟩ := bi_some h
      refine vp_callSi (va_Run.run (va_runV (As := [.int p2, .int p1]) (rest := []) ⟨hx, hb, hml, hown, hts⟩ (k_X6_ahead l dC dI cI cZ am hI M p2 p1 q_19 hq_19) (cwV 2 hts gX6_takes_X6_ahead rfl rfl rfl (by decide +kernel) ⟨Nat.le_of_ble_eq_true rfl, Nat.le_of_ble_eq_true rfl⟩) (gm_preV hKK hKz hP (va_recv hKz hP (ci := 6) (q0 := 0) rfl mw_0)) rfl rfl hl.1 rfl (lv_room (Nat.le_of_ble_eq_true rfl)) dX6_takes_24 ⟨Nat.zero_le _, Nat.zero_le _⟩)) (fun r_20 hr_20 => ?_)
      replace hr_20 := hr_20.symm
      subst hr_20
      refine lv_if_ne (tgt := 58) hx hb dX6_takes_27 (by decide) (fun c_21 => ?_) (fun c_21 => ?_)
      · rw [if_neg c_21] at h
        refine lv_aload_n hx hb dX6_takes_58 rfl (lv_at hl 0 rfl) ?_
        refine va_get (D := (dC, dI)) (ci := 6) (v := .ref (am 10)) (C := RX6) (T := TX6) (N := 29) hx hb hts jX6_takes_X6 hown hKz hP 0 mw_0 rfl 11 (by decide) (hts (.fieldLink RX6 38 "LendThreadsModel" "waitsFor" "[I") (by decide +kernel)) (fun _ h9 => h9) rfl dX6_takes_59 ?_
        refine lv_iload_n hx hb dX6_takes_62 rfl (lv_at hl 1 rfl) ?_
        obtain ⟨g_22, h⟩ := gd_some h
        refine va_iald hx hb hKz hP 10 0 (mw_arr (k := 10) (by decide) (by decide) (by decide)) rfl (inb_in g_22) dX6_takes_63 ?_
        refine lv_iload_n hx hb dX6_takes_64 rfl (lv_at hl 2 rfl) ?_
        refine lv_iconst (v := 1) hx hb dX6_takes_65 (by decide) ?_
        refine lv_iadd hx hb dX6_takes_66 ?_
        refine lv_icmp_eq (tgt := 99) hx hb dX6_takes_67 (by decide) (fun c_23 => ?_) (fun c_23 => ?_)
        · rw [if_pos c_23] at h
          refine lv_iconst (v := 3) hx hb dX6_takes_99 (by decide) ?_
          replace h := Option.some.inj h
          subst h
          exact W.iret (v := 3) hx hb hr (fun t ht hW => ⟨⟨_, _, rfl, ⟨rfl, rfl⟩, (show va_P (dC, dI) vwCl (mW cI cZ am M) t.heap by rw [ht]; exact hP)⟩, hS.F ht⟩) hS.2.2 dX6_takes_100
        · rw [if_neg c_23] at h
          refine lv_aload_n hx hb dX6_takes_70 rfl (lv_at hl 0 rfl) ?_
          refine va_get (D := (dC, dI)) (ci := 6) (v := .ref (am 10)) (C := RX6) (T := TX6) (N := 29) hx hb hts jX6_takes_X6 hown hKz hP 0 mw_0 rfl 11 (by decide) (hts (.fieldLink RX6 38 "LendThreadsModel" "waitsFor" "[I") (by decide +kernel)) (fun _ h9 => h9) rfl dX6_takes_71 ?_
          refine lv_iload_n hx hb dX6_takes_74 rfl (lv_at hl 1 rfl) ?_
          refine lv_iload_n hx hb dX6_takes_75 rfl (lv_at hl 2 rfl) ?_
          refine lv_iconst (v := 1) hx hb dX6_takes_76 (by decide) ?_
          refine lv_iadd hx hb dX6_takes_77 ?_
          obtain ⟨g_24, h⟩ := gd_some h
          refine va_iast hx hb hKz hP hD hS 10 0 (mw_arr (k := 10) (by decide) (by decide) (by decide)) rfl (inb_in g_24) dX6_takes_78 (fun H locs hP _ hS => ?_)
          have hP : va_P (dC, dI) vwCl (mW cI cZ am (up2 M 10 p1.toNatClampNeg (p2 + 1))) H := by show va_P (dC, dI) vwCl (cwl 24 am (encM cI cZ am (up2 M 10 p1.toNatClampNeg (p2 + 1)))) H; rw [← em_arr (k := 10) (by decide) (by decide), ← cwl_set (by decide)]; exact hP
          have hD := cwl_D hI (encM cI cZ am (up2 M 10 p1.toNatClampNeg (p2 + 1)))
          generalize up2 M 10 p1.toNatClampNeg (p2 + 1) = M_25 at hP hD h
          replace h := bm_e h
          try dsimp only at h
          refine lv_aload_n hx hb dX6_takes_79 rfl (lv_at hl 0 rfl) ?_
          refine va_get (D := (dC, dI)) (ci := 6) (v := .ref (am 11)) (C := RX6) (T := TX6) (N := 29) hx hb hts jX6_takes_X6 hown hKz hP 0 mw_0 rfl 12 (by decide) (hts (.fieldLink RX6 41 "LendThreadsModel" "since" "[I") (by decide +kernel)) (fun _ h9 => h9) rfl dX6_takes_80 ?_
          refine lv_iload_n hx hb dX6_takes_83 rfl (lv_at hl 1 rfl) ?_
          refine lv_aload_n hx hb dX6_takes_84 rfl (lv_at hl 0 rfl) ?_
          refine va_get (D := (dC, dI)) (ci := 6) (v := .int (M_25 0 13)) (C := RX6) (T := TX6) (N := 29) hx hb hts jX6_takes_X6 hown hKz hP 0 mw_0 rfl 13 (by decide) (hts (.fieldLink RX6 106 "LendThreadsModel" "clock" "I") (by decide +kernel)) (fun _ h9 => h9) rfl dX6_takes_85 ?_
          obtain ⟨g_26, h⟩ := gd_some h
          refine va_iast hx hb hKz hP hD hS 11 0 (mw_arr (k := 11) (by decide) (by decide) (by decide)) rfl (inb_in g_26) dX6_takes_88 (fun H locs hP _ hS => ?_)
          have hP : va_P (dC, dI) vwCl (mW cI cZ am (up2 M_25 11 p1.toNatClampNeg (M_25 0 13))) H := by show va_P (dC, dI) vwCl (cwl 24 am (encM cI cZ am (up2 M_25 11 p1.toNatClampNeg (M_25 0 13)))) H; rw [← em_arr (k := 11) (by decide) (by decide), ← cwl_set (by decide)]; exact hP
          have hD := cwl_D hI (encM cI cZ am (up2 M_25 11 p1.toNatClampNeg (M_25 0 13)))
          generalize up2 M_25 11 p1.toNatClampNeg (M_25 0 13) = M_27 at hP hD h
          replace h := bm_e h
          try dsimp only at h
          refine lv_aload_n hx hb dX6_takes_89 rfl (lv_at hl 0 rfl) ?_
          refine lv_dup hx hb dX6_takes_90 rfl ?_
          refine va_get (D := (dC, dI)) (ci := 6) (v := .int (M_27 0 13)) (C := RX6) (T := TX6) (N := 29) hx hb hts jX6_takes_X6 hown hKz hP 0 mw_0 rfl 13 (by decide) (hts (.fieldLink RX6 106 "LendThreadsModel" "clock" "I") (by decide +kernel)) (fun _ h9 => h9) rfl dX6_takes_91 ?_
          refine lv_iconst (v := 1) hx hb dX6_takes_94 (by decide) ?_
          refine lv_iadd hx hb dX6_takes_95 ?_
          refine va_put (D := (dC, dI)) (ci := 6) (v := .int ((M_27 0 13) + 1)) (ty := .int) (C := RX6) (T := TX6) (N := 29) hx hb hts jX6_takes_X6 tyX6 tyX6_ok nmX6 hown hKz hP hD hS 0 mw_0 rfl 13 (by decide) (hts (.fieldLink RX6 106 "LendThreadsModel" "clock" "I") (by decide +kernel)) (fun _ h9 => h9) rfl (by decide +kernel) rfl rfl (Nat.le_of_ble_eq_true rfl) dX6_takes_96 (fun H locs hP _ hS => ?_)
          have hP : va_P (dC, dI) vwCl (mW cI cZ am (up2 M_27 0 13 ((M_27 0 13) + 1))) H := by show va_P (dC, dI) vwCl (cwl 24 am (encM cI cZ am (up2 M_27 0 13 ((M_27 0 13) + 1)))) H; rw [← em_clock, ← cwl_set (by decide)]; exact hP
          have hD := cwl_D hI (encM cI cZ am (up2 M_27 0 13 ((M_27 0 13) + 1)))
          generalize up2 M_27 0 13 ((M_27 0 13) + 1) = M_28 at hP hD h
          replace h := bm_e h
          try dsimp only at h
          refine lv_iconst (v := 3) hx hb dX6_takes_99 (by decide) ?_
          replace h := Option.some.inj h
          subst h
          exact W.iret (v := 3) hx hb hr (fun t ht hW => ⟨⟨_, _, rfl, ⟨rfl, rfl⟩, (show va_P (dC, dI) vwCl (mW cI cZ am M_28) t.heap by rw [ht]; exact hP)⟩, hS.F ht⟩) hS.2.2 dX6_takes_100
      · rw [if_pos c_21] at h
        refine lv_aload_n hx hb dX6_takes_30 rfl (lv_at hl 0 rfl) ?_
        refine va_get (D := (dC, dI)) (ci := 6) (v := .ref (am 16)) (C := RX6) (T := TX6) (N := 29) hx hb hts jX6_takes_X6 hown hKz hP 0 mw_0 rfl 18 (by decide) (hts (.fieldLink RX6 56 "LendThreadsModel" "owner" "[I") (by decide +kernel)) (fun _ h9 => h9) rfl dX6_takes_31 ?_
        refine lv_iload_n hx hb dX6_takes_34 rfl (lv_at hl 2 rfl) ?_
        refine lv_iload_n hx hb dX6_takes_35 rfl (lv_at hl 1 rfl) ?_
        refine lv_iconst (v := 1) hx hb dX6_takes_36 (by decide) ?_
        refine lv_iadd hx hb dX6_takes_37 ?_
        obtain ⟨g_29, h⟩ := gd_some h
        refine va_iast hx hb hKz hP hD hS 16 0 (mw_arr (k := 16) (by decide) (by decide) (by decide)) rfl (inb_in g_29) dX6_takes_38 (fun H locs hP _ hS => ?_)
        have hP : va_P (dC, dI) vwCl (mW cI cZ am (up2 M 16 p2.toNatClampNeg (p1 + 1))) H := by show va_P (dC, dI) vwCl (cwl 24 am (encM cI cZ am (up2 M 16 p2.toNatClampNeg (p1 + 1)))) H; rw [← em_arr (k := 16) (by decide) (by decide), ← cwl_set (by decide)]; exact hP
        have hD := cwl_D hI (encM cI cZ am (up2 M 16 p2.toNatClampNeg (p1 + 1)))
        generalize up2 M 16 p2.toNatClampNeg (p1 + 1) = M_30 at hP hD h
        replace h := bm_e h
        try dsimp only at h
        refine lv_aload_n hx hb dX6_takes_39 rfl (lv_at hl 0 rfl) ?_
        refine va_get (D := (dC, dI)) (ci := 6) (v := .ref (am 10)) (C := RX6) (T := TX6) (N := 29) hx hb hts jX6_takes_X6 hown hKz hP 0 mw_0 rfl 11 (by decide) (hts (.fieldLink RX6 38 "LendThreadsModel" "waitsFor" "[I") (by decide +kernel)) (fun _ h9 => h9) rfl dX6_takes_40 ?_
        refine lv_iload_n hx hb dX6_takes_43 rfl (lv_at hl 1 rfl) ?_
        refine lv_iconst (v := 0) hx hb dX6_takes_44 (by decide) ?_
        obtain ⟨g_31, h⟩ := gd_some h
        refine va_iast hx hb hKz hP hD hS 10 0 (mw_arr (k := 10) (by decide) (by decide) (by decide)) rfl (inb_in g_31) dX6_takes_45 (fun H locs hP _ hS => ?_)
        have hP : va_P (dC, dI) vwCl (mW cI cZ am (up2 M_30 10 p1.toNatClampNeg 0)) H := by show va_P (dC, dI) vwCl (cwl 24 am (encM cI cZ am (up2 M_30 10 p1.toNatClampNeg 0))) H; rw [← em_arr (k := 10) (by decide) (by decide), ← cwl_set (by decide)]; exact hP
        have hD := cwl_D hI (encM cI cZ am (up2 M_30 10 p1.toNatClampNeg 0))
        generalize up2 M_30 10 p1.toNatClampNeg 0 = M_32 at hP hD h
        replace h := bm_e h
        try dsimp only at h
        refine lv_aload_n hx hb dX6_takes_46 rfl (lv_at hl 0 rfl) ?_
        refine va_get (D := (dC, dI)) (ci := 6) (v := .ref (am 5)) (C := RX6) (T := TX6) (N := 29) hx hb hts jX6_takes_X6 hown hKz hP 0 mw_0 rfl 6 (by decide) (hts (.fieldLink RX6 22 "LendThreadsModel" "got" "[I") (by decide +kernel)) (fun _ h9 => h9) rfl dX6_takes_47 ?_
        refine lv_iload_n hx hb dX6_takes_50 rfl (lv_at hl 1 rfl) ?_
        refine lv_dup2_11 hx hb dX6_takes_51 rfl rfl ?_
        obtain ⟨g_33, h⟩ := gd_some h
        refine va_iald hx hb hKz hP 5 0 (mw_arr (k := 5) (by decide) (by decide) (by decide)) rfl (inb_in g_33) dX6_takes_52 ?_
        refine lv_iconst (v := 1) hx hb dX6_takes_53 (by decide) ?_
        refine lv_iadd hx hb dX6_takes_54 ?_
        obtain ⟨g_34, h⟩ := gd_some h
        refine va_iast hx hb hKz hP hD hS 5 0 (mw_arr (k := 5) (by decide) (by decide) (by decide)) rfl (inb_in g_34) dX6_takes_55 (fun H locs hP _ hS => ?_)
        have hP : va_P (dC, dI) vwCl (mW cI cZ am (up2 M_32 5 p1.toNatClampNeg ((M_32 5 p1.toNatClampNeg) + 1))) H := by show va_P (dC, dI) vwCl (cwl 24 am (encM cI cZ am (up2 M_32 5 p1.toNatClampNeg ((M_32 5 p1.toNatClampNeg) + 1)))) H; rw [← em_arr (k := 5) (by decide) (by decide), ← cwl_set (by decide)]; exact hP
        have hD := cwl_D hI (encM cI cZ am (up2 M_32 5 p1.toNatClampNeg ((M_32 5 p1.toNatClampNeg) + 1)))
        generalize up2 M_32 5 p1.toNatClampNeg ((M_32 5 p1.toNatClampNeg) + 1) = M_35 at hP hD h
        replace h := bm_e h
        try dsimp only at h
        refine lv_iconst (v := 1) hx hb dX6_takes_56 (by decide) ?_
        replace h := Option.some.inj h
        subst h
        exact W.iret (v := 1) hx hb hr (fun t ht hW => ⟨⟨_, _, rfl, ⟨rfl, rfl⟩, (show va_P (dC, dI) vwCl (mW cI cZ am M_35) t.heap by rw [ht]; exact hP)⟩, hS.F ht⟩) hS.2.2 dX6_takes_57
theorem jX6_hears_X6 : ∀ w ∈ u_ws RX6 TX6 29, w ∈ wsX6_hears := by decide +kernel
def F_X6_hears (M : Mem) (p1 : Int32) (p2 : Int32) : Option (Int32 × Mem) :=
  gd (inb ((12 * p2) + p1) (lm 18)) <| (if (M 18 ((12 * p2) + p1).toNatClampNeg) ≤ 0 then gd (inb ((12 * p2) + p1) (lm 19)) <| (if (M 19 ((12 * p2) + p1).toNatClampNeg) = 0 then some (4, M) else gd (inb ((12 * p2) + p1) (lm 19)) <| gd (inb ((12 * p2) + p1) (lm 19)) <| bm (up2 M 19 (((12 * p2) + p1).toNatClampNeg) ((M 19 ((12 * p2) + p1).toNatClampNeg) - 1)) fun M_7 => gd (inb ((12 * p2) + p1) (lm 18)) <| gd (inb ((12 * p2) + p1) (lm 18)) <| bm (up2 M_7 18 (((12 * p2) + p1).toNatClampNeg) ((M_7 18 ((12 * p2) + p1).toNatClampNeg) + 1)) fun M_10 => gd (inb p1 (lm 8)) <| gd (inb p1 (lm 8)) <| bm (up2 M_10 8 p1.toNatClampNeg ((M_10 8 p1.toNatClampNeg) + 1)) fun M_13 => some (5, M_13)) else gd (inb ((12 * p2) + p1) (lm 18)) <| gd (inb ((12 * p2) + p1) (lm 18)) <| bm (up2 M 18 (((12 * p2) + p1).toNatClampNeg) ((M 18 ((12 * p2) + p1).toNatClampNeg) - 1)) fun M_16 => gd (inb p1 (lm 5)) <| gd (inb p1 (lm 5)) <| bm (up2 M_16 5 p1.toNatClampNeg ((M_16 5 p1.toNatClampNeg) + 1)) fun M_19 => some (1, M_19))
set_option maxHeartbeats 4000000 in
set_option maxRecDepth 100000 in
theorem k_X6_hears (l : Launch) (dC : Nat → ClassId) (dI : Nat → Nat → Nat) (cI cZ : ClassId) (am : Nat → Nat) (hI : Inj 24 am) (M : Mem) (p1 : Int32) (p2 : Int32) (q : Int32 × Mem) (h : F_X6_hears M p1 p2 = some q) : Met l yX6_hears wsX6_hears ({ frames := 0, cells := 0, slots := 0, locals := 0 }) (gm dC dI cI cZ am M [.ref (am 0), .int p1, .int p2]) (va_Qi (fun x M' => x = q.1 ∧ M' = q.2) (fun M' t => va_P (dC, dI) vwCl (mW cI cZ am M') t.heap) (Ac 24 am)) 0 0 (Ac 24 am) := by
  refine Met.ofW (cc := cX6_hears) (maxL := 4) (ret := (some .int)) (by decide) rfl ?_
  intro p e s m args below meth c s₁ B hml hv
  obtain ⟨rfl, hP, hKK, hKz⟩ := hv
  have hx := B.exec
  have hb := B.bytes
  have hr := B.returns
  have hts := atoms_spec (ws := wsX6_hears) B.pre
  have hown : s.vm.findClass RX6 = some m.cls := findClass_of_methodNamed B.named
  have hlocks := B.notSynchronized
  have hD := cwl_D hI (encM cI cZ am M)
  have hS : va_S (Ac 24 am) s.heap s.heap [] := va_S.rf
  have hl := lv_entry ([.ref (am 0), .int p1, .int p2]) (n := 4) (Nat.le_of_ble_eq_true rfl)
  rw [lg_entry_eq]
  generalize (lg_sl ([.ref (am 0), .int p1, .int p2]) ++ List.replicate (4 - (lg_sl ([.ref (am 0), .int p1, .int p2])).length) Slot.unset).toArray = ls at hl ⊢
  have hl : lv_has ls 4 [(0, .ref (am 0)), (1, .int p1), (2, .int p2)] := hl
  unfold F_X6_hears at h
  refine lv_bipush (v := 12) hx hb dX6_hears_0 (by decide) ?_
  refine lv_iload_n hx hb dX6_hears_2 rfl (lv_at hl 2 rfl) ?_
  refine lv_imul hx hb dX6_hears_3 ?_
  refine lv_iload_n hx hb dX6_hears_4 rfl (lv_at hl 1 rfl) ?_
  refine lv_iadd hx hb dX6_hears_5 ?_
  refine lv_istore_n (lv' := [(3, .int ((12 * p2) + p1)), (0, .ref (am 0)), (1, .int p1), (2, .int p2)]) hx hb dX6_hears_6 rfl hl (by decide) rfl (fun ls hl => ?_)
  refine lv_aload_n hx hb dX6_hears_7 rfl (lv_at hl 1 rfl) ?_
  refine va_get (D := (dC, dI)) (ci := 6) (v := .ref (am 18)) (C := RX6) (T := TX6) (N := 29) hx hb hts jX6_hears_X6 hown hKz hP 0 mw_0 rfl 20 (by decide) (hts (.fieldLink RX6 62 "LendThreadsModel" "there" "[I") (by decide +kernel)) (fun _ h9 => h9) rfl dX6_hears_8 ?_
  refine lv_iload_n hx hb dX6_hears_11 rfl (lv_at hl 0 rfl) ?_
  obtain ⟨g_1, h⟩ := gd_some h
  refine va_iald hx hb hKz hP 18 0 (mw_arr (k := 18) (by decide) (by decide) (by decide)) rfl (inb_in g_1) dX6_hears_12 ?_
  refine lv_if_le (tgt := 38) hx hb dX6_hears_13 (by decide) (fun c_2 => ?_) (fun c_2 => ?_)
  · rw [if_pos c_2] at h
    refine lv_aload_n hx hb dX6_hears_38 rfl (lv_at hl 1 rfl) ?_
    refine va_get (D := (dC, dI)) (ci := 6) (v := .ref (am 19)) (C := RX6) (T := TX6) (N := 29) hx hb hts jX6_hears_X6 hown hKz hP 0 mw_0 rfl 21 (by decide) (hts (.fieldLink RX6 65 "LendThreadsModel" "lost" "[I") (by decide +kernel)) (fun _ h9 => h9) rfl dX6_hears_39 ?_
    refine lv_iload_n hx hb dX6_hears_42 rfl (lv_at hl 0 rfl) ?_
    obtain ⟨g_3, h⟩ := gd_some h
    refine va_iald hx hb hKz hP 19 0 (mw_arr (k := 19) (by decide) (by decide) (by decide)) rfl (inb_in g_3) dX6_hears_43 ?_
    refine lv_if_ne (tgt := 49) hx hb dX6_hears_44 (by decide) (fun c_4 => ?_) (fun c_4 => ?_)
    · rw [if_neg c_4] at h
      refine lv_aload_n hx hb dX6_hears_49 rfl (lv_at hl 1 rfl) ?_
      refine va_get (D := (dC, dI)) (ci := 6) (v := .ref (am 19)) (C := RX6) (T := TX6) (N := 29) hx hb hts jX6_hears_X6 hown hKz hP 0 mw_0 rfl 21 (by decide) (hts (.fieldLink RX6 65 "LendThreadsModel" "lost" "[I") (by decide +kernel)) (fun _ h9 => h9) rfl dX6_hears_50 ?_
      refine lv_iload_n hx hb dX6_hears_53 rfl (lv_at hl 0 rfl) ?_
      refine lv_dup2_11 hx hb dX6_hears_54 rfl rfl ?_
      obtain ⟨g_5, h⟩ := gd_some h
      refine va_iald hx hb hKz hP 19 0 (mw_arr (k := 19) (by decide) (by decide) (by decide)) rfl (inb_in g_5) dX6_hears_55 ?_
      refine lv_iconst (v := 1) hx hb dX6_hears_56 (by decide) ?_
      refine lv_isub hx hb dX6_hears_57 ?_
      obtain ⟨g_6, h⟩ := gd_some h
      refine va_iast hx hb hKz hP hD hS 19 0 (mw_arr (k := 19) (by decide) (by decide) (by decide)) rfl (inb_in g_6) dX6_hears_58 (fun H locs hP _ hS => ?_)
      have hP : va_P (dC, dI) vwCl (mW cI cZ am (up2 M 19 (((12 * p2) + p1).toNatClampNeg) ((M 19 ((12 * p2) + p1).toNatClampNeg) - 1))) H := by show va_P (dC, dI) vwCl (cwl 24 am (encM cI cZ am (up2 M 19 (((12 * p2) + p1).toNatClampNeg) ((M 19 ((12 * p2) + p1).toNatClampNeg) - 1)))) H; rw [← em_arr (k := 19) (by decide) (by decide), ← cwl_set (by decide)]; exact hP
      have hD := cwl_D hI (encM cI cZ am (up2 M 19 (((12 * p2) + p1).toNatClampNeg) ((M 19 ((12 * p2) + p1).toNatClampNeg) - 1)))
      generalize up2 M 19 (((12 * p2) + p1).toNatClampNeg) ((M 19 ((12 * p2) + p1).toNatClampNeg) - 1) = M_7 at hP hD h
      replace h := bm_e h
      try dsimp only at h
      refine lv_aload_n hx hb dX6_hears_59 rfl (lv_at hl 1 rfl) ?_
      refine va_get (D := (dC, dI)) (ci := 6) (v := .ref (am 18)) (C := RX6) (T := TX6) (N := 29) hx hb hts jX6_hears_X6 hown hKz hP 0 mw_0 rfl 20 (by decide) (hts (.fieldLink RX6 62 "LendThreadsModel" "there" "[I") (by decide +kernel)) (fun _ h9 => h9) rfl dX6_hears_60 ?_
      refine lv_iload_n hx hb dX6_hears_63 rfl (lv_at hl 0 rfl) ?_
      refine lv_dup2_11 hx hb dX6_hears_64 rfl rfl ?_
      obtain ⟨g_8, h⟩ := gd_some h
      refine va_iald hx hb hKz hP 18 0 (mw_arr (k := 18) (by decide) (by decide) (by decide)) rfl (inb_in g_8) dX6_hears_65 ?_
      refine lv_iconst (v := 1) hx hb dX6_hears_66 (by decide) ?_
      refine lv_iadd hx hb dX6_hears_67 ?_
      obtain ⟨g_9, h⟩ := gd_some h
      refine va_iast hx hb hKz hP hD hS 18 0 (mw_arr (k := 18) (by decide) (by decide) (by decide)) rfl (inb_in g_9) dX6_hears_68 (fun H locs hP _ hS => ?_)
      have hP : va_P (dC, dI) vwCl (mW cI cZ am (up2 M_7 18 (((12 * p2) + p1).toNatClampNeg) ((M_7 18 ((12 * p2) + p1).toNatClampNeg) + 1))) H := by show va_P (dC, dI) vwCl (cwl 24 am (encM cI cZ am (up2 M_7 18 (((12 * p2) + p1).toNatClampNeg) ((M_7 18 ((12 * p2) + p1).toNatClampNeg) + 1)))) H; rw [← em_arr (k := 18) (by decide) (by decide), ← cwl_set (by decide)]; exact hP
      have hD := cwl_D hI (encM cI cZ am (up2 M_7 18 (((12 * p2) + p1).toNatClampNeg) ((M_7 18 ((12 * p2) + p1).toNatClampNeg) + 1)))
      generalize up2 M_7 18 (((12 * p2) + p1).toNatClampNeg) ((M_7 18 ((12 * p2) + p1).toNatClampNeg) + 1) = M_10 at hP hD h
      replace h := bm_e h
      try dsimp only at h
      refine lv_aload_n hx hb dX6_hears_69 rfl (lv_at hl 1 rfl) ?_
      refine va_get (D := (dC, dI)) (ci := 6) (v := .ref (am 8)) (C := RX6) (T := TX6) (N := 29) hx hb hts jX6_hears_X6 hown hKz hP 0 mw_0 rfl 9 (by decide) (hts (.fieldLink RX6 32 "LendThreadsModel" "asked" "[I") (by decide +kernel)) (fun _ h9 => h9) rfl dX6_hears_70 ?_
      refine lv_iload_n hx hb dX6_hears_73 rfl (lv_at hl 2 rfl) ?_
      refine lv_dup2_11 hx hb dX6_hears_74 rfl rfl ?_
      obtain ⟨g_11, h⟩ := gd_some h
      refine va_iald hx hb hKz hP 8 0 (mw_arr (k := 8) (by decide) (by decide) (by decide)) rfl (inb_in g_11) dX6_hears_75 ?_
      refine lv_iconst (v := 1) hx hb dX6_hears_76 (by decide) ?_
      refine lv_iadd hx hb dX6_hears_77 ?_
      obtain ⟨g_12, h⟩ := gd_some h
      refine va_iast hx hb hKz hP hD hS 8 0 (mw_arr (k := 8) (by decide) (by decide) (by decide)) rfl (inb_in g_12) dX6_hears_78 (fun H locs hP _ hS => ?_)
      have hP : va_P (dC, dI) vwCl (mW cI cZ am (up2 M_10 8 p1.toNatClampNeg ((M_10 8 p1.toNatClampNeg) + 1))) H := by show va_P (dC, dI) vwCl (cwl 24 am (encM cI cZ am (up2 M_10 8 p1.toNatClampNeg ((M_10 8 p1.toNatClampNeg) + 1)))) H; rw [← em_arr (k := 8) (by decide) (by decide), ← cwl_set (by decide)]; exact hP
      have hD := cwl_D hI (encM cI cZ am (up2 M_10 8 p1.toNatClampNeg ((M_10 8 p1.toNatClampNeg) + 1)))
      generalize up2 M_10 8 p1.toNatClampNeg ((M_10 8 p1.toNatClampNeg) + 1) = M_13 at hP hD h
      replace h := bm_e h
      try dsimp only at h
      refine lv_iconst (v := 5) hx hb dX6_hears_79 (by decide) ?_
      replace h := Option.some.inj h
      subst h
      exact W.iret (v := 5) hx hb hr (fun t ht hW => ⟨⟨_, _, rfl, ⟨rfl, rfl⟩, (show va_P (dC, dI) vwCl (mW cI cZ am M_13) t.heap by rw [ht]; exact hP)⟩, hS.F ht⟩) hS.2.2 dX6_hears_80
    · rw [if_pos c_4] at h
      refine lv_iconst (v := 4) hx hb dX6_hears_47 (by decide) ?_
      replace h := Option.some.inj h
      subst h
      exact W.iret (v := 4) hx hb hr (fun t ht hW => ⟨⟨_, _, rfl, ⟨rfl, rfl⟩, (show va_P (dC, dI) vwCl (mW cI cZ am M) t.heap by rw [ht]; exact hP)⟩, hS.F ht⟩) hS.2.2 dX6_hears_48
  · rw [if_neg c_2] at h
    refine lv_aload_n hx hb dX6_hears_16 rfl (lv_at hl 1 rfl) ?_
    refine va_get (D := (dC, dI)) (ci := 6) (v := .ref (am 18)) (C := RX6) (T := TX6) (N := 29) hx hb hts jX6_hears_X6 hown hKz hP 0 mw_0 rfl 20 (by decide) (hts (.fieldLink RX6 62 "LendThreadsModel" "there" "[I") (by decide +kernel)) (fun _ h9 => h9) rfl dX6_hears_17 ?_
    refine lv_iload_n hx hb dX6_hears_20 rfl (lv_at hl 0 rfl) ?_
    refine lv_dup2_11 hx hb dX6_hears_21 rfl rfl ?_
    obtain ⟨g_14, h⟩ := gd_some h
    refine va_iald hx hb hKz hP 18 0 (mw_arr (k := 18) (by decide) (by decide) (by decide)) rfl (inb_in g_14) dX6_hears_22 ?_
    refine lv_iconst (v := 1) hx hb dX6_hears_23 (by decide) ?_
    refine lv_isub hx hb dX6_hears_24 ?_
    obtain ⟨g_15, h⟩ := gd_some h
    refine va_iast hx hb hKz hP hD hS 18 0 (mw_arr (k := 18) (by decide) (by decide) (by decide)) rfl (inb_in g_15) dX6_hears_25 (fun H locs hP _ hS => ?_)
    have hP : va_P (dC, dI) vwCl (mW cI cZ am (up2 M 18 (((12 * p2) + p1).toNatClampNeg) ((M 18 ((12 * p2) + p1).toNatClampNeg) - 1))) H := by show va_P (dC, dI) vwCl (cwl 24 am (encM cI cZ am (up2 M 18 (((12 * p2) + p1).toNatClampNeg) ((M 18 ((12 * p2) + p1).toNatClampNeg) - 1)))) H; rw [← em_arr (k := 18) (by decide) (by decide), ← cwl_set (by decide)]; exact hP
    have hD := cwl_D hI (encM cI cZ am (up2 M 18 (((12 * p2) + p1).toNatClampNeg) ((M 18 ((12 * p2) + p1).toNatClampNeg) - 1)))
    generalize up2 M 18 (((12 * p2) + p1).toNatClampNeg) ((M 18 ((12 * p2) + p1).toNatClampNeg) - 1) = M_16 at hP hD h
    replace h := bm_e h
    try dsimp only at h
    refine lv_aload_n hx hb dX6_hears_26 rfl (lv_at hl 1 rfl) ?_
    refine va_get (D := (dC, dI)) (ci := 6) (v := .ref (am 5)) (C := RX6) (T := TX6) (N := 29) hx hb hts jX6_hears_X6 hown hKz hP 0 mw_0 rfl 6 (by decide) (hts (.fieldLink RX6 22 "LendThreadsModel" "got" "[I") (by decide +kernel)) (fun _ h9 => h9) rfl dX6_hears_27 ?_
    refine lv_iload_n hx hb dX6_hears_30 rfl (lv_at hl 2 rfl) ?_
    refine lv_dup2_11 hx hb dX6_hears_31 rfl rfl ?_
    obtain ⟨g_17, h⟩ := gd_some h
    refine va_iald hx hb hKz hP 5 0 (mw_arr (k := 5) (by decide) (by decide) (by decide)) rfl (inb_in g_17) dX6_hears_32 ?_
    refine lv_iconst (v := 1) hx hb dX6_hears_33 (by decide) ?_
    refine lv_iadd hx hb dX6_hears_34 ?_
    obtain ⟨g_18, h⟩ := gd_some h
    refine va_iast hx hb hKz hP hD hS 5 0 (mw_arr (k := 5) (by decide) (by decide) (by decide)) rfl (inb_in g_18) dX6_hears_35 (fun H locs hP _ hS => ?_)
    have hP : va_P (dC, dI) vwCl (mW cI cZ am (up2 M_16 5 p1.toNatClampNeg ((M_16 5 p1.toNatClampNeg) + 1))) H := by show va_P (dC, dI) vwCl (cwl 24 am (encM cI cZ am (up2 M_16 5 p1.toNatClampNeg ((M_16 5 p1.toNatClampNeg) + 1)))) H; rw [← em_arr (k := 5) (by decide) (by decide), ← cwl_set (by decide)]; exact hP
    have hD := cwl_D hI (encM cI cZ am (up2 M_16 5 p1.toNatClampNeg ((M_16 5 p1.toNatClampNeg) + 1)))
    generalize up2 M_16 5 p1.toNatClampNeg ((M_16 5 p1.toNatClampNeg) + 1) = M_19 at hP hD h
    replace h := bm_e h
    try dsimp only at h
    refine lv_iconst (v := 1) hx hb dX6_hears_36 (by decide) ?_
    replace h := Option.some.inj h
    subst h
    exact W.iret (v := 1) hx hb hr (fun t ht hW => ⟨⟨_, _, rfl, ⟨rfl, rfl⟩, (show va_P (dC, dI) vwCl (mW cI cZ am M_19) t.heap by rw [ht]; exact hP)⟩, hS.F ht⟩) hS.2.2 dX6_hears_37
theorem jX6_frees_X6 : ∀ w ∈ u_ws RX6 TX6 29, w ∈ wsX6_frees := by decide +kernel
def L_X6_frees_2 (K : Mem → Int32 → Option (Mem)) (p1 : Int32) : Nat → Mem → Int32 → Option (Mem)
  | 0, _, _ => none
  | n + 1, M_1, v2_2 => (if 10 ≤ v2_2 then K M_1 v2_2 else gd (inb v2_2 (lm 16)) <| (if (M_1 16 v2_2.toNatClampNeg) = (p1 + 1) then gd (inb v2_2 (lm 16)) <| bm (up2 M_1 16 v2_2.toNatClampNeg 0) fun M_9 => L_X6_frees_2 K p1 n M_9 (v2_2 + 1) else gd (inb v2_2 (lm 16)) <| gd (inb v2_2 (lm 16)) <| bm (up2 M_1 16 v2_2.toNatClampNeg (M_1 16 v2_2.toNatClampNeg)) fun M_7 => L_X6_frees_2 K p1 n M_7 (v2_2 + 1)))
def L_X6_frees_53 (K : Mem → Int32 → Int32 → Option (Mem)) (p1 : Int32) : Nat → Mem → Int32 → Int32 → Option (Mem)
  | 0, _, _, _ => none
  | n + 1, M_12, v2_53, v3_53 => (if (M_12 0 23) ≤ v3_53 then K M_12 v2_53 v3_53 else gd (inb v3_53 (lm 20)) <| (if (M_12 20 v3_53.toNatClampNeg) = p1 then L_X6_frees_53 K p1 n M_12 v2_53 (v3_53 + 1) else gd (inb v3_53 (lm 20)) <| gd (inb v2_53 (lm 20)) <| bm (up2 M_12 20 v2_53.toNatClampNeg (M_12 20 v3_53.toNatClampNeg)) fun M_18 => gd (inb v3_53 (lm 21)) <| gd (inb v2_53 (lm 21)) <| bm (up2 M_18 21 v2_53.toNatClampNeg (M_18 21 v3_53.toNatClampNeg)) fun M_21 => gd (inb v3_53 (lm 22)) <| gd (inb v2_53 (lm 22)) <| bm (up2 M_21 22 v2_53.toNatClampNeg (M_21 22 v3_53.toNatClampNeg)) fun M_24 => L_X6_frees_53 K p1 n M_24 (v2_53 + 1) (v3_53 + 1)))
def F_X6_frees (M : Mem) (p1 : Int32) : Option (Mem) :=
  L_X6_frees_2 (fun M_1 v2_2 => gd (inb p1 (lm 10)) <| bm (up2 M_1 10 p1.toNatClampNeg 0) fun M_11 => L_X6_frees_53 (fun M_12 v2_53 v3_53 => bm (up2 M_12 0 23 v2_53) fun M_25 => some M_25) p1 4000 M_11 0 0) p1 4000 M 0
set_option maxHeartbeats 4000000 in
set_option maxRecDepth 100000 in
theorem k_X6_frees (l : Launch) (dC : Nat → ClassId) (dI : Nat → Nat → Nat) (cI cZ : ClassId) (am : Nat → Nat) (hI : Inj 24 am) (M : Mem) (p1 : Int32) (q : Mem) (h : F_X6_frees M p1 = some q) : Met l yX6_frees wsX6_frees ({ frames := 0, cells := 0, slots := 0, locals := 0 }) (gm dC dI cI cZ am M [.ref (am 0), .int p1]) (va_Qv (fun M' => M' = q) (fun M' t => va_P (dC, dI) vwCl (mW cI cZ am M') t.heap) (Ac 24 am)) 0 0 (Ac 24 am) := by
  refine Met.ofW (cc := cX6_frees) (maxL := 4) (ret := none) (by decide) rfl ?_
  intro p e s m args below meth c s₁ B hml hv
  obtain ⟨rfl, hP, hKK, hKz⟩ := hv
  have hx := B.exec
  have hb := B.bytes
  have hr := B.returns
  have hts := atoms_spec (ws := wsX6_frees) B.pre
  have hown : s.vm.findClass RX6 = some m.cls := findClass_of_methodNamed B.named
  have hlocks := B.notSynchronized
  have hD := cwl_D hI (encM cI cZ am M)
  have hS : va_S (Ac 24 am) s.heap s.heap [] := va_S.rf
  have hl := lv_entry ([.ref (am 0), .int p1]) (n := 4) (Nat.le_of_ble_eq_true rfl)
  rw [lg_entry_eq]
  generalize (lg_sl ([.ref (am 0), .int p1]) ++ List.replicate (4 - (lg_sl ([.ref (am 0), .int p1])).length) Slot.unset).toArray = ls at hl ⊢
  have hl : lv_has ls 4 [(0, .ref (am 0)), (1, .int p1)] := hl
  unfold F_X6_frees at h
  refine lv_iconst (v := 0) hx hb dX6_frees_0 (by decide) ?_
  refine lv_istore_n (lv' := [(2, .int 0), (0, .ref (am 0)), (1, .int p1)]) hx hb dX6_frees_1 rfl hl (by decide) rfl (fun ls hl => ?_)
  have key2 : ∀ (K : Mem → Int32 → Option (Mem)), (∀ (M_1 : Mem) (v2_2 : Int32) (H : Heap) (locs : List Loc) (ls : Array Slot), K M_1 v2_2 = some q → va_P (dC, dI) vwCl (mW cI cZ am M_1) H → va_S (Ac 24 am) s.heap H locs → lv_has ls 4 [(2, .int v2_2), (0, .ref (am 0)), (1, .int p1)] → W p l e (headSpec wsX6_frees ({ frames := 0, cells := 0, slots := 0, locals := 0 })).room s m ([.ref (am 0), .int p1] : List Value).toArray below meth c H locs 0 0 (MQ below (va_Qv (fun M' => M' = q) (fun M' t => va_P (dC, dI) vwCl (mW cI cZ am M') t.heap) (Ac 24 am)) ([.ref (am 0), .int p1] : List Value).toArray s 0 0 (Ac 24 am)) (F0 m 42 ls [])) → ∀ (n : Nat), ∀ (M_1 : Mem) (v2_2 : Int32) (H : Heap) (locs : List Loc) (ls : Array Slot), L_X6_frees_2 K p1 n M_1 v2_2 = some q → va_P (dC, dI) vwCl (mW cI cZ am M_1) H → va_S (Ac 24 am) s.heap H locs → lv_has ls 4 [(2, .int v2_2), (0, .ref (am 0)), (1, .int p1)] → W p l e (headSpec wsX6_frees ({ frames := 0, cells := 0, slots := 0, locals := 0 })).room s m ([.ref (am 0), .int p1] : List Value).toArray below meth c H locs 0 0 (MQ below (va_Qv (fun M' => M' = q) (fun M' t => va_P (dC, dI) vwCl (mW cI cZ am M') t.heap) (Ac 24 am)) ([.ref (am 0), .int p1] : List Value).toArray s 0 0 (Ac 24 am)) (F0 m 2 ls []) := by
    intro K hk n
    induction n with
    | zero =>
      intro M_1 v2_2 H locs ls h
      exact absurd h (by simp [L_X6_frees_2])
    | succ n ih =>
      intro M_1 v2_2 H locs ls h hP hS hl
      have hD := cwl_D hI (encM cI cZ am M_1)
      simp only [L_X6_frees_2] at h
      refine lv_iload_n hx hb dX6_frees_2 rfl (lv_at hl 0 rfl) ?_
      refine lv_bipush (v := 10) hx hb dX6_frees_3 (by decide) ?_
      refine lv_icmp_ge (tgt := 42) hx hb dX6_frees_5 (by decide) (fun c_2 => ?_) (fun c_2 => ?_)
      · rw [if_pos c_2] at h
        exact hk M_1 v2_2 _ _ _ h hP hS (lv_sub hl [0, 1, 2] rfl)
      · rw [if_neg c_2] at h
        refine lv_aload_n hx hb dX6_frees_8 rfl (lv_at hl 1 rfl) ?_
        refine va_get (D := (dC, dI)) (ci := 6) (v := .ref (am 16)) (C := RX6) (T := TX6) (N := 29) hx hb hts jX6_frees_X6 hown hKz hP 0 mw_0 rfl 18 (by decide) (hts (.fieldLink RX6 56 "LendThreadsModel" "owner" "[I") (by decide +kernel)) (fun _ h9 => h9) rfl dX6_frees_9 ?_
        refine lv_iload_n hx hb dX6_frees_12 rfl (lv_at hl 0 rfl) ?_
        refine lv_aload_n hx hb dX6_frees_13 rfl (lv_at hl 1 rfl) ?_
        refine va_get (D := (dC, dI)) (ci := 6) (v := .ref (am 16)) (C := RX6) (T := TX6) (N := 29) hx hb hts jX6_frees_X6 hown hKz hP 0 mw_0 rfl 18 (by decide) (hts (.fieldLink RX6 56 "LendThreadsModel" "owner" "[I") (by decide +kernel)) (fun _ h9 => h9) rfl dX6_frees_14 ?_
        refine lv_iload_n hx hb dX6_frees_17 rfl (lv_at hl 0 rfl) ?_
        obtain ⟨g_3, h⟩ := gd_some h
        refine va_iald hx hb hKz hP 16 0 (mw_arr (k := 16) (by decide) (by decide) (by decide)) rfl (inb_in g_3) dX6_frees_18 ?_
        refine lv_iload_n hx hb dX6_frees_19 rfl (lv_at hl 2 rfl) ?_
        refine lv_iconst (v := 1) hx hb dX6_frees_20 (by decide) ?_
        refine lv_iadd hx hb dX6_frees_21 ?_
        refine lv_icmp_ne (tgt := 29) hx hb dX6_frees_22 (by decide) (fun c_4 => ?_) (fun c_4 => ?_)
        · rw [if_neg c_4] at h
          refine lv_aload_n hx hb dX6_frees_29 rfl (lv_at hl 1 rfl) ?_
          refine va_get (D := (dC, dI)) (ci := 6) (v := .ref (am 16)) (C := RX6) (T := TX6) (N := 29) hx hb hts jX6_frees_X6 hown hKz hP 0 mw_0 rfl 18 (by decide) (hts (.fieldLink RX6 56 "LendThreadsModel" "owner" "[I") (by decide +kernel)) (fun _ h9 => h9) rfl dX6_frees_30 ?_
          refine lv_iload_n hx hb dX6_frees_33 rfl (lv_at hl 0 rfl) ?_
          obtain ⟨g_5, h⟩ := gd_some h
          refine va_iald hx hb hKz hP 16 0 (mw_arr (k := 16) (by decide) (by decide) (by decide)) rfl (inb_in g_5) dX6_frees_34 ?_
          obtain ⟨g_6, h⟩ := gd_some h
          refine va_iast hx hb hKz hP hD hS 16 0 (mw_arr (k := 16) (by decide) (by decide) (by decide)) rfl (inb_in g_6) dX6_frees_35 (fun H locs hP _ hS => ?_)
          have hP : va_P (dC, dI) vwCl (mW cI cZ am (up2 M_1 16 v2_2.toNatClampNeg (M_1 16 v2_2.toNatClampNeg))) H := by show va_P (dC, dI) vwCl (cwl 24 am (encM cI cZ am (up2 M_1 16 v2_2.toNatClampNeg (M_1 16 v2_2.toNatClampNeg)))) H; rw [← em_arr (k := 16) (by decide) (by decide), ← cwl_set (by decide)]; exact hP
          have hD := cwl_D hI (encM cI cZ am (up2 M_1 16 v2_2.toNatClampNeg (M_1 16 v2_2.toNatClampNeg)))
          generalize up2 M_1 16 v2_2.toNatClampNeg (M_1 16 v2_2.toNatClampNeg) = M_7 at hP hD h
          replace h := bm_e h
          try dsimp only at h
          refine lv_iinc (v := v2_2 + 1) (lv' := [(2, .int (v2_2 + 1)), (0, .ref (am 0)), (1, .int p1)]) hx hb dX6_frees_36 hl (k := 0) rfl rfl (by decide) rfl (fun ls hl => ?_)
          refine lv_goto (tgt := 2) hx hb dX6_frees_39 (by decide) ?_
          exact ih M_7 (v2_2 + 1) _ _ _ h hP hS (lv_sub hl [0, 1, 2] rfl)
        · rw [if_pos c_4] at h
          refine lv_iconst (v := 0) hx hb dX6_frees_25 (by decide) ?_
          refine lv_goto (tgt := 35) hx hb dX6_frees_26 (by decide) ?_
          obtain ⟨g_8, h⟩ := gd_some h
          refine va_iast hx hb hKz hP hD hS 16 0 (mw_arr (k := 16) (by decide) (by decide) (by decide)) rfl (inb_in g_8) dX6_frees_35 (fun H locs hP _ hS => ?_)
          have hP : va_P (dC, dI) vwCl (mW cI cZ am (up2 M_1 16 v2_2.toNatClampNeg 0)) H := by show va_P (dC, dI) vwCl (cwl 24 am (encM cI cZ am (up2 M_1 16 v2_2.toNatClampNeg 0))) H; rw [← em_arr (k := 16) (by decide) (by decide), ← cwl_set (by decide)]; exact hP
          have hD := cwl_D hI (encM cI cZ am (up2 M_1 16 v2_2.toNatClampNeg 0))
          generalize up2 M_1 16 v2_2.toNatClampNeg 0 = M_9 at hP hD h
          replace h := bm_e h
          try dsimp only at h
          refine lv_iinc (v := v2_2 + 1) (lv' := [(2, .int (v2_2 + 1)), (0, .ref (am 0)), (1, .int p1)]) hx hb dX6_frees_36 hl (k := 0) rfl rfl (by decide) rfl (fun ls hl => ?_)
          refine lv_goto (tgt := 2) hx hb dX6_frees_39 (by decide) ?_
          exact ih M_9 (v2_2 + 1) _ _ _ h hP hS (lv_sub hl [0, 1, 2] rfl)
  refine key2 _ (fun M_1 v2_2 H locs ls h hP hS hl => ?_) 4000 M 0 _ _ _ h hP hS (lv_sub hl [0, 1, 2] rfl)
  have hD := cwl_D hI (encM cI cZ am M_1)
  try dsimp only at h
  refine lv_aload_n hx hb dX6_frees_42 rfl (lv_at hl 1 rfl) ?_
  refine va_get (D := (dC, dI)) (ci := 6) (v := .ref (am 10)) (C := RX6) (T := TX6) (N := 29) hx hb hts jX6_frees_X6 hown hKz hP 0 mw_0 rfl 11 (by decide) (hts (.fieldLink RX6 38 "LendThreadsModel" "waitsFor" "[I") (by decide +kernel)) (fun _ h9 => h9) rfl dX6_frees_43 ?_
  refine lv_iload_n hx hb dX6_frees_46 rfl (lv_at hl 2 rfl) ?_
  refine lv_iconst (v := 0) hx hb dX6_frees_47 (by decide) ?_
  obtain ⟨g_10, h⟩ := gd_some h
  refine va_iast hx hb hKz hP hD hS 10 0 (mw_arr (k := 10) (by decide) (by decide) (by decide)) rfl (inb_in g_10) dX6_frees_48 (fun H locs hP _ hS => ?_)
  have hP : va_P (dC, dI) vwCl (mW cI cZ am (up2 M_1 10 p1.toNatClampNeg 0)) H := by show va_P (dC, dI) vwCl (cwl 24 am (encM cI cZ am (up2 M_1 10 p1.toNatClampNeg 0))) H; rw [← em_arr (k := 10) (by decide) (by decide), ← cwl_set (by decide)]; exact hP
  have hD := cwl_D hI (encM cI cZ am (up2 M_1 10 p1.toNatClampNeg 0))
  generalize up2 M_1 10 p1.toNatClampNeg 0 = M_11 at hP hD h
  replace h := bm_e h
  try dsimp only at h
  refine lv_iconst (v := 0) hx hb dX6_frees_49 (by decide) ?_
  refine lv_istore_n (lv' := [(2, .int 0), (0, .ref (am 0)), (1, .int p1)]) hx hb dX6_frees_50 rfl hl (by decide) rfl (fun ls hl => ?_)
  refine lv_iconst (v := 0) hx hb dX6_frees_51 (by decide) ?_
  refine lv_istore_n (lv' := [(3, .int 0), (2, .int 0), (0, .ref (am 0)), (1, .int p1)]) hx hb dX6_frees_52 rfl hl (by decide) rfl (fun ls hl => ?_)
  have key53 : ∀ (K : Mem → Int32 → Int32 → Option (Mem)), (∀ (M_12 : Mem) (v2_53 v3_53 : Int32) (H : Heap) (locs : List Loc) (ls : Array Slot), K M_12 v2_53 v3_53 = some q → va_P (dC, dI) vwCl (mW cI cZ am M_12) H → va_S (Ac 24 am) s.heap H locs → lv_has ls 4 [(3, .int v3_53), (2, .int v2_53), (0, .ref (am 0)), (1, .int p1)] → W p l e (headSpec wsX6_frees ({ frames := 0, cells := 0, slots := 0, locals := 0 })).room s m ([.ref (am 0), .int p1] : List Value).toArray below meth c H locs 0 0 (MQ below (va_Qv (fun M' => M' = q) (fun M' t => va_P (dC, dI) vwCl (mW cI cZ am M') t.heap) (Ac 24 am)) ([.ref (am 0), .int p1] : List Value).toArray s 0 0 (Ac 24 am)) (F0 m 119 ls [])) → ∀ (n : Nat), ∀ (M_12 : Mem) (v2_53 v3_53 : Int32) (H : Heap) (locs : List Loc) (ls : Array Slot), L_X6_frees_53 K p1 n M_12 v2_53 v3_53 = some q → va_P (dC, dI) vwCl (mW cI cZ am M_12) H → va_S (Ac 24 am) s.heap H locs → lv_has ls 4 [(3, .int v3_53), (2, .int v2_53), (0, .ref (am 0)), (1, .int p1)] → W p l e (headSpec wsX6_frees ({ frames := 0, cells := 0, slots := 0, locals := 0 })).room s m ([.ref (am 0), .int p1] : List Value).toArray below meth c H locs 0 0 (MQ below (va_Qv (fun M' => M' = q) (fun M' t => va_P (dC, dI) vwCl (mW cI cZ am M') t.heap) (Ac 24 am)) ([.ref (am 0), .int p1] : List Value).toArray s 0 0 (Ac 24 am)) (F0 m 53 ls []) := by
    intro K hk n
    induction n with
    | zero =>
      intro M_12 v2_53 v3_53 H locs ls h
      exact absurd h (by simp [L_X6_frees_53])
    | succ n ih =>
      intro M_12 v2_53 v3_53 H locs ls h hP hS hl
      have hD := cwl_D hI (encM cI cZ am M_12)
      simp only [L_X6_frees_53] at h
      refine lv_iload_n hx hb dX6_frees_53 rfl (lv_at hl 0 rfl) ?_
      refine lv_aload_n hx hb dX6_frees_54 rfl (lv_at hl 2 rfl) ?_
      refine va_get (D := (dC, dI)) (ci := 6) (v := .int (M_12 0 23)) (C := RX6) (T := TX6) (N := 29) hx hb hts jX6_frees_X6 hown hKz hP 0 mw_0 rfl 23 (by decide) (hts (.fieldLink RX6 109 "LendThreadsModel" "changes" "I") (by decide +kernel)) (fun _ h9 => h9) rfl dX6_frees_55 ?_
      refine lv_icmp_ge (tgt := 119) hx hb dX6_frees_58 (by decide) (fun c_13 => ?_) (fun c_13 => ?_)
      · rw [if_pos c_13] at h
        exact hk M_12 v2_53 v3_53 _ _ _ h hP hS (lv_sub hl [0, 1, 2, 3] rfl)
      · rw [if_neg c_13] at h
        refine lv_aload_n hx hb dX6_frees_61 rfl (lv_at hl 2 rfl) ?_
        refine va_get (D := (dC, dI)) (ci := 6) (v := .ref (am 20)) (C := RX6) (T := TX6) (N := 29) hx hb hts jX6_frees_X6 hown hKz hP 0 mw_0 rfl 24 (by decide) (hts (.fieldLink RX6 68 "LendThreadsModel" "changedBy" "[I") (by decide +kernel)) (fun _ h9 => h9) rfl dX6_frees_62 ?_
        refine lv_iload_n hx hb dX6_frees_65 rfl (lv_at hl 0 rfl) ?_
        obtain ⟨g_14, h⟩ := gd_some h
        refine va_iald hx hb hKz hP 20 0 (mw_arr (k := 20) (by decide) (by decide) (by decide)) rfl (inb_in g_14) dX6_frees_66 ?_
        refine lv_iload_n hx hb dX6_frees_67 rfl (lv_at hl 3 rfl) ?_
        refine lv_icmp_ne (tgt := 74) hx hb dX6_frees_68 (by decide) (fun c_15 => ?_) (fun c_15 => ?_)
        · rw [if_neg c_15] at h
          refine lv_aload_n hx hb dX6_frees_74 rfl (lv_at hl 2 rfl) ?_
          refine va_get (D := (dC, dI)) (ci := 6) (v := .ref (am 20)) (C := RX6) (T := TX6) (N := 29) hx hb hts jX6_frees_X6 hown hKz hP 0 mw_0 rfl 24 (by decide) (hts (.fieldLink RX6 68 "LendThreadsModel" "changedBy" "[I") (by decide +kernel)) (fun _ h9 => h9) rfl dX6_frees_75 ?_
          refine lv_iload_n hx hb dX6_frees_78 rfl (lv_at hl 1 rfl) ?_
          refine lv_aload_n hx hb dX6_frees_79 rfl (lv_at hl 2 rfl) ?_
          refine va_get (D := (dC, dI)) (ci := 6) (v := .ref (am 20)) (C := RX6) (T := TX6) (N := 29) hx hb hts jX6_frees_X6 hown hKz hP 0 mw_0 rfl 24 (by decide) (hts (.fieldLink RX6 68 "LendThreadsModel" "changedBy" "[I") (by decide +kernel)) (fun _ h9 => h9) rfl dX6_frees_80 ?_
          refine lv_iload_n hx hb dX6_frees_83 rfl (lv_at hl 0 rfl) ?_
          obtain ⟨g_16, h⟩ := gd_some h
          refine va_iald hx hb hKz hP 20 0 (mw_arr (k := 20) (by decide) (by decide) (by decide)) rfl (inb_in g_16) dX6_frees_84 ?_
          obtain ⟨g_17, h⟩ := gd_some h
          refine va_iast hx hb hKz hP hD hS 20 0 (mw_arr (k := 20) (by decide) (by decide) (by decide)) rfl (inb_in g_17) dX6_frees_85 (fun H locs hP _ hS => ?_)
          have hP : va_P (dC, dI) vwCl (mW cI cZ am (up2 M_12 20 v2_53.toNatClampNeg (M_12 20 v3_53.toNatClampNeg))) H := by show va_P (dC, dI) vwCl (cwl 24 am (encM cI cZ am (up2 M_12 20 v2_53.toNatClampNeg (M_12 20 v3_53.toNatClampNeg)))) H; rw [← em_arr (k := 20) (by decide) (by decide), ← cwl_set (by decide)]; exact hP
          have hD := cwl_D hI (encM cI cZ am (up2 M_12 20 v2_53.toNatClampNeg (M_12 20 v3_53.toNatClampNeg)))
          generalize up2 M_12 20 v2_53.toNatClampNeg (M_12 20 v3_53.toNatClampNeg) = M_18 at hP hD h
          replace h := bm_e h
          try dsimp only at h
          refine lv_aload_n hx hb dX6_frees_86 rfl (lv_at hl 2 rfl) ?_
          refine va_get (D := (dC, dI)) (ci := 6) (v := .ref (am 21)) (C := RX6) (T := TX6) (N := 29) hx hb hts jX6_frees_X6 hown hKz hP 0 mw_0 rfl 25 (by decide) (hts (.fieldLink RX6 71 "LendThreadsModel" "changed" "[I") (by decide +kernel)) (fun _ h9 => h9) rfl dX6_frees_87 ?_
          refine lv_iload_n hx hb dX6_frees_90 rfl (lv_at hl 1 rfl) ?_
          refine lv_aload_n hx hb dX6_frees_91 rfl (lv_at hl 2 rfl) ?_
          refine va_get (D := (dC, dI)) (ci := 6) (v := .ref (am 21)) (C := RX6) (T := TX6) (N := 29) hx hb hts jX6_frees_X6 hown hKz hP 0 mw_0 rfl 25 (by decide) (hts (.fieldLink RX6 71 "LendThreadsModel" "changed" "[I") (by decide +kernel)) (fun _ h9 => h9) rfl dX6_frees_92 ?_
          refine lv_iload_n hx hb dX6_frees_95 rfl (lv_at hl 0 rfl) ?_
          obtain ⟨g_19, h⟩ := gd_some h
          refine va_iald hx hb hKz hP 21 0 (mw_arr (k := 21) (by decide) (by decide) (by decide)) rfl (inb_in g_19) dX6_frees_96 ?_
          obtain ⟨g_20, h⟩ := gd_some h
          refine va_iast hx hb hKz hP hD hS 21 0 (mw_arr (k := 21) (by decide) (by decide) (by decide)) rfl (inb_in g_20) dX6_frees_97 (fun H locs hP _ hS => ?_)
          have hP : va_P (dC, dI) vwCl (mW cI cZ am (up2 M_18 21 v2_53.toNatClampNeg (M_18 21 v3_53.toNatClampNeg))) H := by show va_P (dC, dI) vwCl (cwl 24 am (encM cI cZ am (up2 M_18 21 v2_53.toNatClampNeg (M_18 21 v3_53.toNatClampNeg)))) H; rw [← em_arr (k := 21) (by decide) (by decide), ← cwl_set (by decide)]; exact hP
          have hD := cwl_D hI (encM cI cZ am (up2 M_18 21 v2_53.toNatClampNeg (M_18 21 v3_53.toNatClampNeg)))
          generalize up2 M_18 21 v2_53.toNatClampNeg (M_18 21 v3_53.toNatClampNeg) = M_21 at hP hD h
          replace h := bm_e h
          try dsimp only at h
          refine lv_aload_n hx hb dX6_frees_98 rfl (lv_at hl 2 rfl) ?_
          refine va_get (D := (dC, dI)) (ci := 6) (v := .ref (am 22)) (C := RX6) (T := TX6) (N := 29) hx hb hts jX6_frees_X6 hown hKz hP 0 mw_0 rfl 26 (by decide) (hts (.fieldLink RX6 74 "LendThreadsModel" "before" "[I") (by decide +kernel)) (fun _ h9 => h9) rfl dX6_frees_99 ?_
          refine lv_iload_n hx hb dX6_frees_102 rfl (lv_at hl 1 rfl) ?_
          refine lv_aload_n hx hb dX6_frees_103 rfl (lv_at hl 2 rfl) ?_
          refine va_get (D := (dC, dI)) (ci := 6) (v := .ref (am 22)) (C := RX6) (T := TX6) (N := 29) hx hb hts jX6_frees_X6 hown hKz hP 0 mw_0 rfl 26 (by decide) (hts (.fieldLink RX6 74 "LendThreadsModel" "before" "[I") (by decide +kernel)) (fun _ h9 => h9) rfl dX6_frees_104 ?_
          refine lv_iload_n hx hb dX6_frees_107 rfl (lv_at hl 0 rfl) ?_
          obtain ⟨g_22, h⟩ := gd_some h
          refine va_iald hx hb hKz hP 22 0 (mw_arr (k := 22) (by decide) (by decide) (by decide)) rfl (inb_in g_22) dX6_frees_108 ?_
          obtain ⟨g_23, h⟩ := gd_some h
          refine va_iast hx hb hKz hP hD hS 22 0 (mw_arr (k := 22) (by decide) (by decide) (by decide)) rfl (inb_in g_23) dX6_frees_109 (fun H locs hP _ hS => ?_)
          have hP : va_P (dC, dI) vwCl (mW cI cZ am (up2 M_21 22 v2_53.toNatClampNeg (M_21 22 v3_53.toNatClampNeg))) H := by show va_P (dC, dI) vwCl (cwl 24 am (encM cI cZ am (up2 M_21 22 v2_53.toNatClampNeg (M_21 22 v3_53.toNatClampNeg)))) H; rw [← em_arr (k := 22) (by decide) (by decide), ← cwl_set (by decide)]; exact hP
          have hD := cwl_D hI (encM cI cZ am (up2 M_21 22 v2_53.toNatClampNeg (M_21 22 v3_53.toNatClampNeg)))
          generalize up2 M_21 22 v2_53.toNatClampNeg (M_21 22 v3_53.toNatClampNeg) = M_24 at hP hD h
          replace h := bm_e h
          try dsimp only at h
          refine lv_iinc (v := v2_53 + 1) (lv' := [(2, .int (v2_53 + 1)), (3, .int v3_53), (0, .ref (am 0)), (1, .int p1)]) hx hb dX6_frees_110 hl (k := 1) rfl rfl (by decide) rfl (fun ls hl => ?_)
          refine lv_iinc (v := v3_53 + 1) (lv' := [(3, .int (v3_53 + 1)), (2, .int (v2_53 + 1)), (0, .ref (am 0)), (1, .int p1)]) hx hb dX6_frees_113 hl (k := 1) rfl rfl (by decide) rfl (fun ls hl => ?_)
          refine lv_goto (tgt := 53) hx hb dX6_frees_116 (by decide) ?_
          exact ih M_24 (v2_53 + 1) (v3_53 + 1) _ _ _ h hP hS (lv_sub hl [0, 1, 2, 3] rfl)
        · rw [if_pos c_15] at h
          refine lv_goto (tgt := 113) hx hb dX6_frees_71 (by decide) ?_
          refine lv_iinc (v := v3_53 + 1) (lv' := [(3, .int (v3_53 + 1)), (2, .int v2_53), (0, .ref (am 0)), (1, .int p1)]) hx hb dX6_frees_113 hl (k := 0) rfl rfl (by decide) rfl (fun ls hl => ?_)
          refine lv_goto (tgt := 53) hx hb dX6_frees_116 (by decide) ?_
          exact ih M_12 v2_53 (v3_53 + 1) _ _ _ h hP hS (lv_sub hl [0, 1, 2, 3] rfl)
  refine key53 _ (fun M_12 v2_53 v3_53 H locs ls h hP hS hl => ?_) 4000 M_11 0 0 _ _ _ h hP hS (lv_sub hl [0, 1, 2, 3] rfl)
  have hD := cwl_D hI (encM cI cZ am M_12)
  try dsimp only at h
  refine lv_aload_n hx hb dX6_frees_119 rfl (lv_at hl 2 rfl) ?_
  refine lv_iload_n hx hb dX6_frees_120 rfl (lv_at hl 1 rfl) ?_
  refine va_put (D := (dC, dI)) (ci := 6) (v := .int v2_53) (ty := .int) (C := RX6) (T := TX6) (N := 29) hx hb hts jX6_frees_X6 tyX6 tyX6_ok nmX6 hown hKz hP hD hS 0 mw_0 rfl 23 (by decide) (hts (.fieldLink RX6 109 "LendThreadsModel" "changes" "I") (by decide +kernel)) (fun _ h9 => h9) rfl (by decide +kernel) rfl rfl (Nat.le_of_ble_eq_true rfl) dX6_frees_121 (fun H locs hP _ hS => ?_)
  have hP : va_P (dC, dI) vwCl (mW cI cZ am (up2 M_12 0 23 v2_53)) H := by show va_P (dC, dI) vwCl (cwl 24 am (encM cI cZ am (up2 M_12 0 23 v2_53))) H; rw [← em_changes, ← cwl_set (by decide)]; exact hP
  have hD := cwl_D hI (encM cI cZ am (up2 M_12 0 23 v2_53))
  generalize up2 M_12 0 23 v2_53 = M_25 at hP hD h
  replace h := bm_e h
  try dsimp only at h
  replace h := Option.some.inj h
  subst h
  exact W.vret hx hb hr (fun t ht hW => ⟨⟨_, rfl, rfl, (show va_P (dC, dI) vwCl (mW cI cZ am M_25) t.heap by rw [ht]; exact hP)⟩, hS.F ht⟩) hS.2.2 dX6_frees_124
theorem jX6_undo_X6 : ∀ w ∈ u_ws RX6 TX6 29, w ∈ wsX6_undo := by decide +kernel
def L_X6_undo_7 (K : Mem → Int32 → Option (Mem)) (p1 : Int32) (p2 : Int32) : Nat → Mem → Int32 → Option (Mem)
  | 0, _, _ => none
  | n + 1, M_1, v3_7 => (if v3_7 < 0 then K M_1 v3_7 else gd (inb v3_7 (lm 20)) <| (if (M_1 20 v3_7.toNatClampNeg) = p1 then gd (inb v3_7 (lm 21)) <| gd (inb v3_7 (lm 22)) <| gd (inb (M_1 21 v3_7.toNatClampNeg) (lm 17)) <| bm (up2 M_1 17 ((M_1 21 v3_7.toNatClampNeg).toNatClampNeg) (M_1 22 v3_7.toNatClampNeg)) fun M_8 => L_X6_undo_7 K p1 p2 n M_8 (v3_7 + (-1)) else L_X6_undo_7 K p1 p2 n M_1 (v3_7 + (-1))))
def F_X6_undo (M : Mem) (p1 : Int32) (p2 : Int32) : Option (Mem) :=
  L_X6_undo_7 (fun M_1 v3_7 => bi (F_X6_frees M_1 p1) fun q_9 => gd (inb p1 (lm 3)) <| bm (up2 q_9 3 p1.toNatClampNeg p2) fun M_13 => some M_13) p1 p2 4000 M ((M 0 23) - 1)
set_option maxHeartbeats 4000000 in
set_option maxRecDepth 100000 in
theorem k_X6_undo (l : Launch) (dC : Nat → ClassId) (dI : Nat → Nat → Nat) (cI cZ : ClassId) (am : Nat → Nat) (hI : Inj 24 am) (M : Mem) (p1 : Int32) (p2 : Int32) (q : Mem) (h : F_X6_undo M p1 p2 = some q) : Met l yX6_undo wsX6_undo ({ frames := 1, cells := 0, slots := 0, locals := 23 }) (gm dC dI cI cZ am M [.ref (am 0), .int p1, .int p2]) (va_Qv (fun M' => M' = q) (fun M' t => va_P (dC, dI) vwCl (mW cI cZ am M') t.heap) (Ac 24 am)) 0 0 (Ac 24 am) := by
  refine Met.ofW (cc := cX6_undo) (maxL := 4) (ret := none) (by decide) rfl ?_
  intro p e s m args below meth c s₁ B hml hv
  obtain ⟨rfl, hP, hKK, hKz⟩ := hv
  have hx := B.exec
  have hb := B.bytes
  have hr := B.returns
  have hts := atoms_spec (ws := wsX6_undo) B.pre
  have hown : s.vm.findClass RX6 = some m.cls := findClass_of_methodNamed B.named
  have hlocks := B.notSynchronized
  have hD := cwl_D hI (encM cI cZ am M)
  have hS : va_S (Ac 24 am) s.heap s.heap [] := va_S.rf
  have hl := lv_entry ([.ref (am 0), .int p1, .int p2]) (n := 4) (Nat.le_of_ble_eq_true rfl)
  rw [lg_entry_eq]
  generalize (lg_sl ([.ref (am 0), .int p1, .int p2]) ++ List.replicate (4 - (lg_sl ([.ref (am 0), .int p1, .int p2])).length) Slot.unset).toArray = ls at hl ⊢
  have hl : lv_has ls 4 [(0, .ref (am 0)), (1, .int p1), (2, .int p2)] := hl
  unfold F_X6_undo at h
  refine lv_aload_n hx hb dX6_undo_0 rfl (lv_at hl 0 rfl) ?_
  refine va_get (D := (dC, dI)) (ci := 6) (v := .int (M 0 23)) (C := RX6) (T := TX6) (N := 29) hx hb hts jX6_undo_X6 hown hKz hP 0 mw_0 rfl 23 (by decide) (hts (.fieldLink RX6 109 "LendThreadsModel" "changes" "I") (by decide +kernel)) (fun _ h9 => h9) rfl dX6_undo_1 ?_
  refine lv_iconst (v := 1) hx hb dX6_undo_4 (by decide) ?_
  refine lv_isub hx hb dX6_undo_5 ?_
  refine lv_istore_n (lv' := [(3, .int ((M 0 23) - 1)), (0, .ref (am 0)), (1, .int p1), (2, .int p2)]) hx hb dX6_undo_6 rfl hl (by decide) rfl (fun ls hl => ?_)
  have key7 : ∀ (K : Mem → Int32 → Option (Mem)), (∀ (M_1 : Mem) (v3_7 : Int32) (H : Heap) (locs : List Loc) (ls : Array Slot), K M_1 v3_7 = some q → va_P (dC, dI) vwCl (mW cI cZ am M_1) H → va_S (Ac 24 am) s.heap H locs → lv_has ls 4 [(3, .int v3_7), (0, .ref (am 0)), (1, .int p1), (2, .int p2)] → W p l e (headSpec wsX6_undo ({ frames := 1, cells := 0, slots := 0, locals := 23 })).room s m ([.ref (am 0), .int p1, .int p2] : List Value).toArray below meth c H locs 0 0 (MQ below (va_Qv (fun M' => M' = q) (fun M' t => va_P (dC, dI) vwCl (mW cI cZ am M') t.heap) (Ac 24 am)) ([.ref (am 0), .int p1, .int p2] : List Value).toArray s 0 0 (Ac 24 am)) (F0 m 44 ls [])) → ∀ (n : Nat), ∀ (M_1 : Mem) (v3_7 : Int32) (H : Heap) (locs : List Loc) (ls : Array Slot), L_X6_undo_7 K p1 p2 n M_1 v3_7 = some q → va_P (dC, dI) vwCl (mW cI cZ am M_1) H → va_S (Ac 24 am) s.heap H locs → lv_has ls 4 [(3, .int v3_7), (0, .ref (am 0)), (1, .int p1), (2, .int p2)] → W p l e (headSpec wsX6_undo ({ frames := 1, cells := 0, slots := 0, locals := 23 })).room s m ([.ref (am 0), .int p1, .int p2] : List Value).toArray below meth c H locs 0 0 (MQ below (va_Qv (fun M' => M' = q) (fun M' t => va_P (dC, dI) vwCl (mW cI cZ am M') t.heap) (Ac 24 am)) ([.ref (am 0), .int p1, .int p2] : List Value).toArray s 0 0 (Ac 24 am)) (F0 m 7 ls []) := by
    intro K hk n
    induction n with
    | zero =>
      intro M_1 v3_7 H locs ls h
      exact absurd h (by simp [L_X6_undo_7])
    | succ n ih =>
      intro M_1 v3_7 H locs ls h hP hS hl
      have hD := cwl_D hI (encM cI cZ am M_1)
      simp only [L_X6_undo_7] at h
      refine lv_iload_n hx hb dX6_undo_7 rfl (lv_at hl 0 rfl) ?_
      refine lv_if_lt (tgt := 44) hx hb dX6_undo_8 (by decide) (fun c_2 => ?_) (fun c_2 => ?_)
      · rw [if_pos c_2] at h
        exact hk M_1 v3_7 _ _ _ h hP hS (lv_sub hl [0, 1, 2, 3] rfl)
      · rw [if_neg c_2] at h
        refine lv_aload_n hx hb dX6_undo_11 rfl (lv_at hl 1 rfl) ?_
        refine va_get (D := (dC, dI)) (ci := 6) (v := .ref (am 20)) (C := RX6) (T := TX6) (N := 29) hx hb hts jX6_undo_X6 hown hKz hP 0 mw_0 rfl 24 (by decide) (hts (.fieldLink RX6 68 "LendThreadsModel" "changedBy" "[I") (by decide +kernel)) (fun _ h9 => h9) rfl dX6_undo_12 ?_
        refine lv_iload_n hx hb dX6_undo_15 rfl (lv_at hl 0 rfl) ?_
        obtain ⟨g_3, h⟩ := gd_some h
        refine va_iald hx hb hKz hP 20 0 (mw_arr (k := 20) (by decide) (by decide) (by decide)) rfl (inb_in g_3) dX6_undo_16 ?_
        refine lv_iload_n hx hb dX6_undo_17 rfl (lv_at hl 2 rfl) ?_
        refine lv_icmp_ne (tgt := 38) hx hb dX6_undo_18 (by decide) (fun c_4 => ?_) (fun c_4 => ?_)
        · rw [if_neg c_4] at h
          refine lv_iinc (v := v3_7 + (-1)) (lv' := [(3, .int (v3_7 + (-1))), (0, .ref (am 0)), (1, .int p1), (2, .int p2)]) hx hb dX6_undo_38 hl (k := 0) rfl rfl (by decide) rfl (fun ls hl => ?_)
          refine lv_goto (tgt := 7) hx hb dX6_undo_41 (by decide) ?_
          exact ih M_1 (v3_7 + (-1)) _ _ _ h hP hS (lv_sub hl [0, 1, 2, 3] rfl)
        · rw [if_pos c_4] at h
          refine lv_aload_n hx hb dX6_undo_21 rfl (lv_at hl 1 rfl) ?_
          refine va_get (D := (dC, dI)) (ci := 6) (v := .ref (am 17)) (C := RX6) (T := TX6) (N := 29) hx hb hts jX6_undo_X6 hown hKz hP 0 mw_0 rfl 19 (by decide) (hts (.fieldLink RX6 59 "LendThreadsModel" "value" "[I") (by decide +kernel)) (fun _ h9 => h9) rfl dX6_undo_22 ?_
          refine lv_aload_n hx hb dX6_undo_25 rfl (lv_at hl 1 rfl) ?_
          refine va_get (D := (dC, dI)) (ci := 6) (v := .ref (am 21)) (C := RX6) (T := TX6) (N := 29) hx hb hts jX6_undo_X6 hown hKz hP 0 mw_0 rfl 25 (by decide) (hts (.fieldLink RX6 71 "LendThreadsModel" "changed" "[I") (by decide +kernel)) (fun _ h9 => h9) rfl dX6_undo_26 ?_
          refine lv_iload_n hx hb dX6_undo_29 rfl (lv_at hl 0 rfl) ?_
          obtain ⟨g_5, h⟩ := gd_some h
          refine va_iald hx hb hKz hP 21 0 (mw_arr (k := 21) (by decide) (by decide) (by decide)) rfl (inb_in g_5) dX6_undo_30 ?_
          refine lv_aload_n hx hb dX6_undo_31 rfl (lv_at hl 1 rfl) ?_
          refine va_get (D := (dC, dI)) (ci := 6) (v := .ref (am 22)) (C := RX6) (T := TX6) (N := 29) hx hb hts jX6_undo_X6 hown hKz hP 0 mw_0 rfl 26 (by decide) (hts (.fieldLink RX6 74 "LendThreadsModel" "before" "[I") (by decide +kernel)) (fun _ h9 => h9) rfl dX6_undo_32 ?_
          refine lv_iload_n hx hb dX6_undo_35 rfl (lv_at hl 0 rfl) ?_
          obtain ⟨g_6, h⟩ := gd_some h
          refine va_iald hx hb hKz hP 22 0 (mw_arr (k := 22) (by decide) (by decide) (by decide)) rfl (inb_in g_6) dX6_undo_36 ?_
          obtain ⟨g_7, h⟩ := gd_some h
          refine va_iast hx hb hKz hP hD hS 17 0 (mw_arr (k := 17) (by decide) (by decide) (by decide)) rfl (inb_in g_7) dX6_undo_37 (fun H locs hP _ hS => ?_)
          have hP : va_P (dC, dI) vwCl (mW cI cZ am (up2 M_1 17 ((M_1 21 v3_7.toNatClampNeg).toNatClampNeg) (M_1 22 v3_7.toNatClampNeg))) H := by show va_P (dC, dI) vwCl (cwl 24 am (encM cI cZ am (up2 M_1 17 ((M_1 21 v3_7.toNatClampNeg).toNatClampNeg) (M_1 22 v3_7.toNatClampNeg)))) H; rw [← em_arr (k := 17) (by decide) (by decide), ← cwl_set (by decide)]; exact hP
          have hD := cwl_D hI (encM cI cZ am (up2 M_1 17 ((M_1 21 v3_7.toNatClampNeg).toNatClampNeg) (M_1 22 v3_7.toNatClampNeg)))
          generalize up2 M_1 17 ((M_1 21 v3_7.toNatClampNeg).toNatClampNeg) (M_1 22 v3_7.toNatClampNeg) = M_8 at hP hD h
          replace h := bm_e h
          try dsimp only at h
          refine lv_iinc (v := v3_7 + (-1)) (lv' := [(3, .int (v3_7 + (-1))), (0, .ref (am 0)), (1, .int p1), (2, .int p2)]) hx hb dX6_undo_38 hl (k := 0) rfl rfl (by decide) rfl (fun ls hl => ?_)
          refine lv_goto (tgt := 7) hx hb dX6_undo_41 (by decide) ?_
          exact ih M_8 (v3_7 + (-1)) _ _ _ h hP hS (lv_sub hl [0, 1, 2, 3] rfl)
  refine key7 _ (fun M_1 v3_7 H locs ls h hP hS hl => ?_) 4000 M ((M 0 23) - 1) _ _ _ h hP hS (lv_sub hl [0, 1, 2, 3] rfl)
  have hD := cwl_D hI (encM cI cZ am M_1)
  try dsimp only at h
  refine lv_aload_n hx hb dX6_undo_44 rfl (lv_at hl 1 rfl) ?_
  refine lv_iload_n hx hb dX6_undo_45 rfl (lv_at hl 2 rfl) ?_
  obtain ⟨q_9, hq_9, h⟩ := bi_some h
  refine va_callv (va_runV (As := [.int p1]) (rest := []) ⟨hx, hb, hml, hown, hts⟩ (k_X6_frees l dC dI cI cZ am hI M_1 p1 q_9 hq_9) (cwV 1 hts gX6_undo_X6_frees rfl rfl rfl (by decide +kernel) ⟨Nat.le_of_ble_eq_true rfl, Nat.le_of_ble_eq_true rfl⟩) (gm_preV hKK hKz hP (va_recv hKz hP (ci := 6) (q0 := 0) rfl mw_0)) rfl rfl hl.1 rfl (lv_room (Nat.le_of_ble_eq_true rfl)) dX6_undo_46 ⟨Nat.zero_le _, Nat.zero_le _⟩) hS (fun q _ h => h) (fun q h => h) (fun M_11 t H locs ht hvm hw hP hz1 hk1 hS => ?_)
  replace hw := hw.symm
  subst hw
  rw [ht] at hP
  have hD := cwl_D hI (encM cI cZ am q_9)
  refine lv_aload_n hx hb dX6_undo_49 rfl (lv_at hl 1 rfl) ?_
  refine va_get (D := (dC, dI)) (ci := 6) (v := .ref (am 3)) (C := RX6) (T := TX6) (N := 29) hx hb hts jX6_undo_X6 hown hKz hP 0 mw_0 rfl 4 (by decide) (hts (.fieldLink RX6 16 "LendThreadsModel" "state" "[I") (by decide +kernel)) (fun _ h9 => h9) rfl dX6_undo_50 ?_
  refine lv_iload_n hx hb dX6_undo_53 rfl (lv_at hl 2 rfl) ?_
  refine lv_iload_n hx hb dX6_undo_54 rfl (lv_at hl 3 rfl) ?_
  obtain ⟨g_12, h⟩ := gd_some h
  refine va_iast hx hb hKz hP hD hS 3 0 (mw_arr (k := 3) (by decide) (by decide) (by decide)) rfl (inb_in g_12) dX6_undo_55 (fun H locs hP _ hS => ?_)
  have hP : va_P (dC, dI) vwCl (mW cI cZ am (up2 q_9 3 p1.toNatClampNeg p2)) H := by show va_P (dC, dI) vwCl (cwl 24 am (encM cI cZ am (up2 q_9 3 p1.toNatClampNeg p2))) H; rw [← em_arr (k := 3) (by decide) (by decide), ← cwl_set (by decide)]; exact hP
  have hD := cwl_D hI (encM cI cZ am (up2 q_9 3 p1.toNatClampNeg p2))
  generalize up2 q_9 3 p1.toNatClampNeg p2 = M_13 at hP hD h
  replace h := bm_e h
  try dsimp only at h
  replace h := Option.some.inj h
  subst h
  exact W.vret hx hb hr (fun t ht hW => ⟨⟨_, rfl, rfl, (show va_P (dC, dI) vwCl (mW cI cZ am M_13) t.heap by rw [ht]; exact hP)⟩, hS.F ht⟩) hS.2.2 dX6_undo_56
theorem jX6_acts_X6 : ∀ w ∈ u_ws RX6 TX6 29, w ∈ wsX6_acts := by decide +kernel
def L_X6_acts_9 (K : Mem → Int32 → Option (Mem)) (c2_9 : Int32) (p1 : Int32) : Nat → Mem → Int32 → Option (Mem)
  | 0, _, _ => none
  | n + 1, M_2, v3_9 => (if 10 ≤ v3_9 then K M_2 v3_9 else gd (inb v3_9 (lm 16)) <| (if (M_2 16 v3_9.toNatClampNeg) = (p1 + 1) then gd (inb (M_2 0 23) (lm 20)) <| bm (up2 M_2 20 ((M_2 0 23).toNatClampNeg) p1) fun M_7 => gd (inb (M_7 0 23) (lm 21)) <| bm (up2 M_7 21 ((M_7 0 23).toNatClampNeg) v3_9) fun M_9 => gd (inb v3_9 (lm 17)) <| gd (inb (M_9 0 23) (lm 22)) <| bm (up2 M_9 22 ((M_9 0 23).toNatClampNeg) (M_9 17 v3_9.toNatClampNeg)) fun M_12 => bm (up2 M_12 0 23 ((M_12 0 23) + 1)) fun M_13 => gd (inb v3_9 (lm 17)) <| gd (inb v3_9 (lm 17)) <| bm (up2 M_13 17 v3_9.toNatClampNeg (((3 * (M_13 17 v3_9.toNatClampNeg)) + p1) + (10 * c2_9))) fun M_16 => L_X6_acts_9 K c2_9 p1 n M_16 (v3_9 + 1) else L_X6_acts_9 K c2_9 p1 n M_2 (v3_9 + 1)))
def L_X6_acts_139 (K : Mem → Int32 → Option (Mem)) (c2_139 : Int32) (p1 : Int32) : Nat → Mem → Int32 → Option (Mem)
  | 0, _, _ => none
  | n + 1, M_18, v3_139 => gd (inb ((10 * p1) + c2_139) (lm 14)) <| (if (M_18 14 ((10 * p1) + c2_139).toNatClampNeg) ≤ v3_139 then K M_18 v3_139 else gd (inb ((2 * ((10 * p1) + c2_139)) + v3_139) (lm 15)) <| (if (M_18 0 22) ≤ 0 then gd (inb ((12 * p1) + (M_18 15 ((2 * ((10 * p1) + c2_139)) + v3_139).toNatClampNeg)) (lm 18)) <| gd (inb ((12 * p1) + (M_18 15 ((2 * ((10 * p1) + c2_139)) + v3_139).toNatClampNeg)) (lm 18)) <| bm (up2 M_18 18 (((12 * p1) + (M_18 15 ((2 * ((10 * p1) + c2_139)) + v3_139).toNatClampNeg)).toNatClampNeg) ((M_18 18 ((12 * p1) + (M_18 15 ((2 * ((10 * p1) + c2_139)) + v3_139).toNatClampNeg)).toNatClampNeg) + 1)) fun M_25 => L_X6_acts_139 K c2_139 p1 n M_25 (v3_139 + 1) else bm (up2 M_18 0 22 ((M_18 0 22) - 1)) fun M_26 => gd (inb ((12 * p1) + (M_18 15 ((2 * ((10 * p1) + c2_139)) + v3_139).toNatClampNeg)) (lm 19)) <| gd (inb ((12 * p1) + (M_18 15 ((2 * ((10 * p1) + c2_139)) + v3_139).toNatClampNeg)) (lm 19)) <| bm (up2 M_26 19 (((12 * p1) + (M_18 15 ((2 * ((10 * p1) + c2_139)) + v3_139).toNatClampNeg)).toNatClampNeg) ((M_26 19 ((12 * p1) + (M_18 15 ((2 * ((10 * p1) + c2_139)) + v3_139).toNatClampNeg)).toNatClampNeg) + 1)) fun M_29 => L_X6_acts_139 K c2_139 p1 n M_29 (v3_139 + 1)))
def F_X6_acts (M : Mem) (p1 : Int32) : Option (Mem) :=
  gd (inb p1 (lm 4)) <| L_X6_acts_9 (fun M_2 v3_9 => (if 300 ≤ (M_2 0 27) then L_X6_acts_139 (fun M_18 v3_139 => gd (inb p1 (lm 4)) <| gd (inb p1 (lm 4)) <| bm (up2 M_18 4 p1.toNatClampNeg ((M_18 4 p1.toNatClampNeg) + 1)) fun M_32 => gd (inb p1 (lm 5)) <| bm (up2 M_32 5 p1.toNatClampNeg 0) fun M_34 => gd (inb p1 (lm 4)) <| gd (inb p1 (lm 1)) <| (if (M_34 4 p1.toNatClampNeg) = (M_34 1 p1.toNatClampNeg) then bi (F_X6_frees M_34 p1) fun q_38 => gd (inb p1 (lm 3)) <| bm (up2 q_38 3 p1.toNatClampNeg 1) fun M_42 => some M_42 else some M_34)) (M 4 p1.toNatClampNeg) p1 4000 M_2 0 else gd (inb (M_2 0 27) (lm 23)) <| bm (up2 M_2 23 ((M_2 0 27).toNatClampNeg) ((100 * p1) + (M 4 p1.toNatClampNeg))) fun M_44 => bm (up2 M_44 0 27 ((M_44 0 27) + 1)) fun M_45 => L_X6_acts_139 (fun M_46 v3_139 => gd (inb p1 (lm 4)) <| gd (inb p1 (lm 4)) <| bm (up2 M_46 4 p1.toNatClampNeg ((M_46 4 p1.toNatClampNeg) + 1)) fun M_60 => gd (inb p1 (lm 5)) <| bm (up2 M_60 5 p1.toNatClampNeg 0) fun M_62 => gd (inb p1 (lm 4)) <| gd (inb p1 (lm 1)) <| (if (M_62 4 p1.toNatClampNeg) = (M_62 1 p1.toNatClampNeg) then bi (F_X6_frees M_62 p1) fun q_66 => gd (inb p1 (lm 3)) <| bm (up2 q_66 3 p1.toNatClampNeg 1) fun M_70 => some M_70 else some M_62)) (M 4 p1.toNatClampNeg) p1 4000 M_45 0)) (M 4 p1.toNatClampNeg) p1 4000 M 0
set_option maxHeartbeats 4000000 in
set_option maxRecDepth 100000 in
theorem k_X6_acts (l : Launch) (dC : Nat → ClassId) (dI : Nat → Nat → Nat) (cI cZ : ClassId) (am : Nat → Nat) (hI : Inj 24 am) (M : Mem) (p1 : Int32) (q : Mem) (h : F_X6_acts M p1 = some q) : Met l yX6_acts wsX6_acts ({ frames := 1, cells := 0, slots := 0, locals := 23 }) (gm dC dI cI cZ am M [.ref (am 0), .int p1]) (va_Qv (fun M' => M' = q) (fun M' t => va_P (dC, dI) vwCl (mW cI cZ am M') t.heap) (Ac 24 am)) 0 0 (Ac 24 am) := by
  refine Met.ofW (cc := cX6_acts) (maxL := 5) (ret := none) (by decide) rfl ?_
  intro p e s m args below meth c s₁ B hml hv
  obtain ⟨rfl, hP, hKK, hKz⟩ := hv
  have hx := B.exec
  have hb := B.bytes
  have hr := B.returns
  have hts := atoms_spec (ws := wsX6_acts) B.pre
  have hown : s.vm.findClass RX6 = some m.cls := findClass_of_methodNamed B.named
  have hlocks := B.notSynchronized
  have hD := cwl_D hI (encM cI cZ am M)
  have hS : va_S (Ac 24 am) s.heap s.heap [] := va_S.rf
  have hl := lv_entry ([.ref (am 0), .int p1]) (n := 5) (Nat.le_of_ble_eq_true rfl)
  rw [lg_entry_eq]
  generalize (lg_sl ([.ref (am 0), .int p1]) ++ List.replicate (5 - (lg_sl ([.ref (am 0), .int p1])).length) Slot.unset).toArray = ls at hl ⊢
  have hl : lv_has ls 5 [(0, .ref (am 0)), (1, .int p1)] := hl
  unfold F_X6_acts at h
  refine lv_aload_n hx hb dX6_acts_0 rfl (lv_at hl 0 rfl) ?_
  refine va_get (D := (dC, dI)) (ci := 6) (v := .ref (am 4)) (C := RX6) (T := TX6) (N := 29) hx hb hts jX6_acts_X6 hown hKz hP 0 mw_0 rfl 5 (by decide) (hts (.fieldLink RX6 19 "LendThreadsModel" "step" "[I") (by decide +kernel)) (fun _ h9 => h9) rfl dX6_acts_1 ?_
  refine lv_iload_n hx hb dX6_acts_4 rfl (lv_at hl 1 rfl) ?_
  obtain ⟨g_1, h⟩ := gd_some h
  refine va_iald hx hb hKz hP 4 0 (mw_arr (k := 4) (by decide) (by decide) (by decide)) rfl (inb_in g_1) dX6_acts_5 ?_
  refine lv_istore_n (lv' := [(2, .int (M 4 p1.toNatClampNeg)), (0, .ref (am 0)), (1, .int p1)]) hx hb dX6_acts_6 rfl hl (by decide) rfl (fun ls hl => ?_)
  refine lv_iconst (v := 0) hx hb dX6_acts_7 (by decide) ?_
  refine lv_istore_n (lv' := [(3, .int 0), (2, .int (M 4 p1.toNatClampNeg)), (0, .ref (am 0)), (1, .int p1)]) hx hb dX6_acts_8 rfl hl (by decide) rfl (fun ls hl => ?_)
  have key9 : ∀ (K : Mem → Int32 → Option (Mem)), (∀ (M_2 : Mem) (v3_9 : Int32) (H : Heap) (locs : List Loc) (ls : Array Slot), K M_2 v3_9 = some q → va_P (dC, dI) vwCl (mW cI cZ am M_2) H → va_S (Ac 24 am) s.heap H locs → lv_has ls 5 [(3, .int v3_9), (2, .int (M 4 p1.toNatClampNeg)), (0, .ref (am 0)), (1, .int p1)] → W p l e (headSpec wsX6_acts ({ frames := 1, cells := 0, slots := 0, locals := 23 })).room s m ([.ref (am 0), .int p1] : List Value).toArray below meth c H locs 0 0 (MQ below (va_Qv (fun M' => M' = q) (fun M' t => va_P (dC, dI) vwCl (mW cI cZ am M') t.heap) (Ac 24 am)) ([.ref (am 0), .int p1] : List Value).toArray s 0 0 (Ac 24 am)) (F0 m 102 ls [])) → ∀ (n : Nat), ∀ (M_2 : Mem) (v3_9 : Int32) (H : Heap) (locs : List Loc) (ls : Array Slot), L_X6_acts_9 K (M 4 p1.toNatClampNeg) p1 n M_2 v3_9 = some q → va_P (dC, dI) vwCl (mW cI cZ am M_2) H → va_S (Ac 24 am) s.heap H locs → lv_has ls 5 [(3, .int v3_9), (2, .int (M 4 p1.toNatClampNeg)), (0, .ref (am 0)), (1, .int p1)] → W p l e (headSpec wsX6_acts ({ frames := 1, cells := 0, slots := 0, locals := 23 })).room s m ([.ref (am 0), .int p1] : List Value).toArray below meth c H locs 0 0 (MQ below (va_Qv (fun M' => M' = q) (fun M' t => va_P (dC, dI) vwCl (mW cI cZ am M') t.heap) (Ac 24 am)) ([.ref (am 0), .int p1] : List Value).toArray s 0 0 (Ac 24 am)) (F0 m 9 ls []) := by
    intro K hk n
    induction n with
    | zero =>
      intro M_2 v3_9 H locs ls h
      exact absurd h (by simp [L_X6_acts_9])
    | succ n ih =>
      intro M_2 v3_9 H locs ls h hP hS hl
      have hD := cwl_D hI (encM cI cZ am M_2)
      simp only [L_X6_acts_9] at h
      refine lv_iload_n hx hb dX6_acts_9 rfl (lv_at hl 0 rfl) ?_
      refine lv_bipush (v := 10) hx hb dX6_acts_10 (by decide) ?_
      refine lv_icmp_ge (tgt := 102) hx hb dX6_acts_12 (by decide) (fun c_3 => ?_) (fun c_3 => ?_)
      · rw [if_pos c_3] at h
        exact hk M_2 v3_9 _ _ _ h hP hS (lv_sub hl [0, 1, 2, 3] rfl)
      · rw [if_neg c_3] at h
        refine lv_aload_n hx hb dX6_acts_15 rfl (lv_at hl 2 rfl) ?_
        refine va_get (D := (dC, dI)) (ci := 6) (v := .ref (am 16)) (C := RX6) (T := TX6) (N := 29) hx hb hts jX6_acts_X6 hown hKz hP 0 mw_0 rfl 18 (by decide) (hts (.fieldLink RX6 56 "LendThreadsModel" "owner" "[I") (by decide +kernel)) (fun _ h9 => h9) rfl dX6_acts_16 ?_
        refine lv_iload_n hx hb dX6_acts_19 rfl (lv_at hl 0 rfl) ?_
        obtain ⟨g_4, h⟩ := gd_some h
        refine va_iald hx hb hKz hP 16 0 (mw_arr (k := 16) (by decide) (by decide) (by decide)) rfl (inb_in g_4) dX6_acts_20 ?_
        refine lv_iload_n hx hb dX6_acts_21 rfl (lv_at hl 3 rfl) ?_
        refine lv_iconst (v := 1) hx hb dX6_acts_22 (by decide) ?_
        refine lv_iadd hx hb dX6_acts_23 ?_
        refine lv_icmp_eq (tgt := 30) hx hb dX6_acts_24 (by decide) (fun c_5 => ?_) (fun c_5 => ?_)
        · rw [if_pos c_5] at h
          refine lv_aload_n hx hb dX6_acts_30 rfl (lv_at hl 2 rfl) ?_
          refine va_get (D := (dC, dI)) (ci := 6) (v := .ref (am 20)) (C := RX6) (T := TX6) (N := 29) hx hb hts jX6_acts_X6 hown hKz hP 0 mw_0 rfl 24 (by decide) (hts (.fieldLink RX6 68 "LendThreadsModel" "changedBy" "[I") (by decide +kernel)) (fun _ h9 => h9) rfl dX6_acts_31 ?_
          refine lv_aload_n hx hb dX6_acts_34 rfl (lv_at hl 2 rfl) ?_
          refine va_get (D := (dC, dI)) (ci := 6) (v := .int (M_2 0 23)) (C := RX6) (T := TX6) (N := 29) hx hb hts jX6_acts_X6 hown hKz hP 0 mw_0 rfl 23 (by decide) (hts (.fieldLink RX6 109 "LendThreadsModel" "changes" "I") (by decide +kernel)) (fun _ h9 => h9) rfl dX6_acts_35 ?_
          refine lv_iload_n hx hb dX6_acts_38 rfl (lv_at hl 3 rfl) ?_
          obtain ⟨g_6, h⟩ := gd_some h
          refine va_iast hx hb hKz hP hD hS 20 0 (mw_arr (k := 20) (by decide) (by decide) (by decide)) rfl (inb_in g_6) dX6_acts_39 (fun H locs hP _ hS => ?_)
          have hP : va_P (dC, dI) vwCl (mW cI cZ am (up2 M_2 20 ((M_2 0 23).toNatClampNeg) p1)) H := by show va_P (dC, dI) vwCl (cwl 24 am (encM cI cZ am (up2 M_2 20 ((M_2 0 23).toNatClampNeg) p1))) H; rw [← em_arr (k := 20) (by decide) (by decide), ← cwl_set (by decide)]; exact hP
          have hD := cwl_D hI (encM cI cZ am (up2 M_2 20 ((M_2 0 23).toNatClampNeg) p1))
          generalize up2 M_2 20 ((M_2 0 23).toNatClampNeg) p1 = M_7 at hP hD h
          replace h := bm_e h
          try dsimp only at h
          refine lv_aload_n hx hb dX6_acts_40 rfl (lv_at hl 2 rfl) ?_
          refine va_get (D := (dC, dI)) (ci := 6) (v := .ref (am 21)) (C := RX6) (T := TX6) (N := 29) hx hb hts jX6_acts_X6 hown hKz hP 0 mw_0 rfl 25 (by decide) (hts (.fieldLink RX6 71 "LendThreadsModel" "changed" "[I") (by decide +kernel)) (fun _ h9 => h9) rfl dX6_acts_41 ?_
          refine lv_aload_n hx hb dX6_acts_44 rfl (lv_at hl 2 rfl) ?_
          refine va_get (D := (dC, dI)) (ci := 6) (v := .int (M_7 0 23)) (C := RX6) (T := TX6) (N := 29) hx hb hts jX6_acts_X6 hown hKz hP 0 mw_0 rfl 23 (by decide) (hts (.fieldLink RX6 109 "LendThreadsModel" "changes" "I") (by decide +kernel)) (fun _ h9 => h9) rfl dX6_acts_45 ?_
          refine lv_iload_n hx hb dX6_acts_48 rfl (lv_at hl 0 rfl) ?_
          obtain ⟨g_8, h⟩ := gd_some h
          refine va_iast hx hb hKz hP hD hS 21 0 (mw_arr (k := 21) (by decide) (by decide) (by decide)) rfl (inb_in g_8) dX6_acts_49 (fun H locs hP _ hS => ?_)
          have hP : va_P (dC, dI) vwCl (mW cI cZ am (up2 M_7 21 ((M_7 0 23).toNatClampNeg) v3_9)) H := by show va_P (dC, dI) vwCl (cwl 24 am (encM cI cZ am (up2 M_7 21 ((M_7 0 23).toNatClampNeg) v3_9))) H; rw [← em_arr (k := 21) (by decide) (by decide), ← cwl_set (by decide)]; exact hP
          have hD := cwl_D hI (encM cI cZ am (up2 M_7 21 ((M_7 0 23).toNatClampNeg) v3_9))
          generalize up2 M_7 21 ((M_7 0 23).toNatClampNeg) v3_9 = M_9 at hP hD h
          replace h := bm_e h
          try dsimp only at h
          refine lv_aload_n hx hb dX6_acts_50 rfl (lv_at hl 2 rfl) ?_
          refine va_get (D := (dC, dI)) (ci := 6) (v := .ref (am 22)) (C := RX6) (T := TX6) (N := 29) hx hb hts jX6_acts_X6 hown hKz hP 0 mw_0 rfl 26 (by decide) (hts (.fieldLink RX6 74 "LendThreadsModel" "before" "[I") (by decide +kernel)) (fun _ h9 => h9) rfl dX6_acts_51 ?_
          refine lv_aload_n hx hb dX6_acts_54 rfl (lv_at hl 2 rfl) ?_
          refine va_get (D := (dC, dI)) (ci := 6) (v := .int (M_9 0 23)) (C := RX6) (T := TX6) (N := 29) hx hb hts jX6_acts_X6 hown hKz hP 0 mw_0 rfl 23 (by decide) (hts (.fieldLink RX6 109 "LendThreadsModel" "changes" "I") (by decide +kernel)) (fun _ h9 => h9) rfl dX6_acts_55 ?_
          refine lv_aload_n hx hb dX6_acts_58 rfl (lv_at hl 2 rfl) ?_
          refine va_get (D := (dC, dI)) (ci := 6) (v := .ref (am 17)) (C := RX6) (T := TX6) (N := 29) hx hb hts jX6_acts_X6 hown hKz hP 0 mw_0 rfl 19 (by decide) (hts (.fieldLink RX6 59 "LendThreadsModel" "value" "[I") (by decide +kernel)) (fun _ h9 => h9) rfl dX6_acts_59 ?_
          refine lv_iload_n hx hb dX6_acts_62 rfl (lv_at hl 0 rfl) ?_
          obtain ⟨g_10, h⟩ := gd_some h
          refine va_iald hx hb hKz hP 17 0 (mw_arr (k := 17) (by decide) (by decide) (by decide)) rfl (inb_in g_10) dX6_acts_63 ?_
          obtain ⟨g_11, h⟩ := gd_some h
          refine va_iast hx hb hKz hP hD hS 22 0 (mw_arr (k := 22) (by decide) (by decide) (by decide)) rfl (inb_in g_11) dX6_acts_64 (fun H locs hP _ hS => ?_)
          have hP : va_P (dC, dI) vwCl (mW cI cZ am (up2 M_9 22 ((M_9 0 23).toNatClampNeg) (M_9 17 v3_9.toNatClampNeg))) H := by show va_P (dC, dI) vwCl (cwl 24 am (encM cI cZ am (up2 M_9 22 ((M_9 0 23).toNatClampNeg) (M_9 17 v3_9.toNatClampNeg)))) H; rw [← em_arr (k := 22) (by decide) (by decide), ← cwl_set (by decide)]; exact hP
          have hD := cwl_D hI (encM cI cZ am (up2 M_9 22 ((M_9 0 23).toNatClampNeg) (M_9 17 v3_9.toNatClampNeg)))
          generalize up2 M_9 22 ((M_9 0 23).toNatClampNeg) (M_9 17 v3_9.toNatClampNeg) = M_12 at hP hD h
          replace h := bm_e h
          try dsimp only at h
          refine lv_aload_n hx hb dX6_acts_65 rfl (lv_at hl 2 rfl) ?_
          refine lv_dup hx hb dX6_acts_66 rfl ?_
          refine va_get (D := (dC, dI)) (ci := 6) (v := .int (M_12 0 23)) (C := RX6) (T := TX6) (N := 29) hx hb hts jX6_acts_X6 hown hKz hP 0 mw_0 rfl 23 (by decide) (hts (.fieldLink RX6 109 "LendThreadsModel" "changes" "I") (by decide +kernel)) (fun _ h9 => h9) rfl dX6_acts_67 ?_
          refine lv_iconst (v := 1) hx hb dX6_acts_70 (by decide) ?_
          refine lv_iadd hx hb dX6_acts_71 ?_
          refine va_put (D := (dC, dI)) (ci := 6) (v := .int ((M_12 0 23) + 1)) (ty := .int) (C := RX6) (T := TX6) (N := 29) hx hb hts jX6_acts_X6 tyX6 tyX6_ok nmX6 hown hKz hP hD hS 0 mw_0 rfl 23 (by decide) (hts (.fieldLink RX6 109 "LendThreadsModel" "changes" "I") (by decide +kernel)) (fun _ h9 => h9) rfl (by decide +kernel) rfl rfl (Nat.le_of_ble_eq_true rfl) dX6_acts_72 (fun H locs hP _ hS => ?_)
          have hP : va_P (dC, dI) vwCl (mW cI cZ am (up2 M_12 0 23 ((M_12 0 23) + 1))) H := by show va_P (dC, dI) vwCl (cwl 24 am (encM cI cZ am (up2 M_12 0 23 ((M_12 0 23) + 1)))) H; rw [← em_changes, ← cwl_set (by decide)]; exact hP
          have hD := cwl_D hI (encM cI cZ am (up2 M_12 0 23 ((M_12 0 23) + 1)))
          generalize up2 M_12 0 23 ((M_12 0 23) + 1) = M_13 at hP hD h
          replace h := bm_e h
          try dsimp only at h
          refine lv_aload_n hx hb dX6_acts_75 rfl (lv_at hl 2 rfl) ?_
          refine va_get (D := (dC, dI)) (ci := 6) (v := .ref (am 17)) (C := RX6) (T := TX6) (N := 29) hx hb hts jX6_acts_X6 hown hKz hP 0 mw_0 rfl 19 (by decide) (hts (.fieldLink RX6 59 "LendThreadsModel" "value" "[I") (by decide +kernel)) (fun _ h9 => h9) rfl dX6_acts_76 ?_
          refine lv_iload_n hx hb dX6_acts_79 rfl (lv_at hl 0 rfl) ?_
          refine lv_iconst (v := 3) hx hb dX6_acts_80 (by decide) ?_
          refine lv_aload_n hx hb dX6_acts_81 rfl (lv_at hl 2 rfl) ?_
          refine va_get (D := (dC, dI)) (ci := 6) (v := .ref (am 17)) (C := RX6) (T := TX6) (N := 29) hx hb hts jX6_acts_X6 hown hKz hP 0 mw_0 rfl 19 (by decide) (hts (.fieldLink RX6 59 "LendThreadsModel" "value" "[I") (by decide +kernel)) (fun _ h9 => h9) rfl dX6_acts_82 ?_
          refine lv_iload_n hx hb dX6_acts_85 rfl (lv_at hl 0 rfl) ?_
          obtain ⟨g_14, h⟩ := gd_some h
          refine va_iald hx hb hKz hP 17 0 (mw_arr (k := 17) (by decide) (by decide) (by decide)) rfl (inb_in g_14) dX6_acts_86 ?_
          refine lv_imul hx hb dX6_acts_87 ?_
          refine lv_iload_n hx hb dX6_acts_88 rfl (lv_at hl 3 rfl) ?_
          refine lv_iadd hx hb dX6_acts_89 ?_
          refine lv_bipush (v := 10) hx hb dX6_acts_90 (by decide) ?_
          refine lv_iload_n hx hb dX6_acts_92 rfl (lv_at hl 1 rfl) ?_
          refine lv_imul hx hb dX6_acts_93 ?_
          refine lv_iadd hx hb dX6_acts_94 ?_
          obtain ⟨g_15, h⟩ := gd_some h
          refine va_iast hx hb hKz hP hD hS 17 0 (mw_arr (k := 17) (by decide) (by decide) (by decide)) rfl (inb_in g_15) dX6_acts_95 (fun H locs hP _ hS => ?_)
          have hP : va_P (dC, dI) vwCl (mW cI cZ am (up2 M_13 17 v3_9.toNatClampNeg (((3 * (M_13 17 v3_9.toNatClampNeg)) + p1) + (10 * (M 4 p1.toNatClampNeg))))) H := by show va_P (dC, dI) vwCl (cwl 24 am (encM cI cZ am (up2 M_13 17 v3_9.toNatClampNeg (((3 * (M_13 17 v3_9.toNatClampNeg)) + p1) + (10 * (M 4 p1.toNatClampNeg)))))) H; rw [← em_arr (k := 17) (by decide) (by decide), ← cwl_set (by decide)]; exact hP
          have hD := cwl_D hI (encM cI cZ am (up2 M_13 17 v3_9.toNatClampNeg (((3 * (M_13 17 v3_9.toNatClampNeg)) + p1) + (10 * (M 4 p1.toNatClampNeg)))))
          generalize up2 M_13 17 v3_9.toNatClampNeg (((3 * (M_13 17 v3_9.toNatClampNeg)) + p1) + (10 * (M 4 p1.toNatClampNeg))) = M_16 at hP hD h
          replace h := bm_e h
          try dsimp only at h
          refine lv_iinc (v := v3_9 + 1) (lv' := [(3, .int (v3_9 + 1)), (2, .int (M 4 p1.toNatClampNeg)), (0, .ref (am 0)), (1, .int p1)]) hx hb dX6_acts_96 hl (k := 0) rfl rfl (by decide) rfl (fun ls hl => ?_)
          refine lv_goto (tgt := 9) hx hb dX6_acts_99 (by decide) ?_
          exact ih M_16 (v3_9 + 1) _ _ _ h hP hS (lv_sub hl [0, 1, 2, 3] rfl)
        · rw [if_neg c_5] at h
          refine lv_goto (tgt := 96) hx hb dX6_acts_27 (by decide) ?_
          refine lv_iinc (v := v3_9 + 1) (lv' := [(3, .int (v3_9 + 1)), (2, .int (M 4 p1.toNatClampNeg)), (0, .ref (am 0)), (1, .int p1)]) hx hb dX6_acts_96 hl (k := 0) rfl rfl (by decide) rfl (fun ls hl => ?_)
          refine lv_goto (tgt := 9) hx hb dX6_acts_99 (by decide) ?_
          exact ih M_2 (v3_9 + 1) _ _ _ h hP hS (lv_sub hl [0, 1, 2, 3] rfl)
  refine key9 _ (fun M_2 v3_9 H locs ls h hP hS hl => ?_) 4000 M 0 _ _ _ h hP hS (lv_sub hl [0, 1, 2, 3] rfl)
  have hD := cwl_D hI (encM cI cZ am M_2)
  try dsimp only at h
  refine lv_aload_n hx hb dX6_acts_102 rfl (lv_at hl 2 rfl) ?_
  refine va_get (D := (dC, dI)) (ci := 6) (v := .int (M_2 0 27)) (C := RX6) (T := TX6) (N := 29) hx hb hts jX6_acts_X6 hown hKz hP 0 mw_0 rfl 27 (by decide) (hts (.fieldLink RX6 116 "LendThreadsModel" "logged" "I") (by decide +kernel)) (fun _ h9 => h9) rfl dX6_acts_103 ?_
  refine lv_sipush (v := 300) hx hb dX6_acts_106 (by decide) ?_
  refine lv_icmp_ge (tgt := 137) hx hb dX6_acts_109 (by decide) (fun c_17 => ?_) (fun c_17 => ?_)
  · rw [if_pos c_17] at h
    refine lv_iconst (v := 0) hx hb dX6_acts_137 (by decide) ?_
    refine lv_istore_n (lv' := [(3, .int 0), (2, .int (M 4 p1.toNatClampNeg)), (0, .ref (am 0)), (1, .int p1)]) hx hb dX6_acts_138 rfl hl (by decide) rfl (fun ls hl => ?_)
    have key139 : ∀ (K : Mem → Int32 → Option (Mem)), (∀ (M_18 : Mem) (v3_139 : Int32) (H : Heap) (locs : List Loc) (ls : Array Slot), K M_18 v3_139 = some q → va_P (dC, dI) vwCl (mW cI cZ am M_18) H → va_S (Ac 24 am) s.heap H locs → lv_has ls 5 [(3, .int v3_139), (2, .int (M 4 p1.toNatClampNeg)), (0, .ref (am 0)), (1, .int p1)] → W p l e (headSpec wsX6_acts ({ frames := 1, cells := 0, slots := 0, locals := 23 })).room s m ([.ref (am 0), .int p1] : List Value).toArray below meth c H locs 0 0 (MQ below (va_Qv (fun M' => M' = q) (fun M' t => va_P (dC, dI) vwCl (mW cI cZ am M') t.heap) (Ac 24 am)) ([.ref (am 0), .int p1] : List Value).toArray s 0 0 (Ac 24 am)) (F0 m 224 ls [])) → ∀ (n : Nat), ∀ (M_18 : Mem) (v3_139 : Int32) (H : Heap) (locs : List Loc) (ls : Array Slot), L_X6_acts_139 K (M 4 p1.toNatClampNeg) p1 n M_18 v3_139 = some q → va_P (dC, dI) vwCl (mW cI cZ am M_18) H → va_S (Ac 24 am) s.heap H locs → lv_has ls 5 [(3, .int v3_139), (2, .int (M 4 p1.toNatClampNeg)), (0, .ref (am 0)), (1, .int p1)] → W p l e (headSpec wsX6_acts ({ frames := 1, cells := 0, slots := 0, locals := 23 })).room s m ([.ref (am 0), .int p1] : List Value).toArray below meth c H locs 0 0 (MQ below (va_Qv (fun M' => M' = q) (fun M' t => va_P (dC, dI) vwCl (mW cI cZ am M') t.heap) (Ac 24 am)) ([.ref (am 0), .int p1] : List Value).toArray s 0 0 (Ac 24 am)) (F0 m 139 ls []) := by
      intro K hk n
      induction n with
      | zero =>
        intro M_18 v3_139 H locs ls h
        exact absurd h (by simp [L_X6_acts_139])
      | succ n ih =>
        intro M_18 v3_139 H locs ls h hP hS hl
        have hD := cwl_D hI (encM cI cZ am M_18)
        simp only [L_X6_acts_139] at h
        refine lv_iload_n hx hb dX6_acts_139 rfl (lv_at hl 0 rfl) ?_
        refine lv_aload_n hx hb dX6_acts_140 rfl (lv_at hl 2 rfl) ?_
        refine va_get (D := (dC, dI)) (ci := 6) (v := .ref (am 14)) (C := RX6) (T := TX6) (N := 29) hx hb hts jX6_acts_X6 hown hKz hP 0 mw_0 rfl 16 (by decide) (hts (.fieldLink RX6 50 "LendThreadsModel" "sendCount" "[I") (by decide +kernel)) (fun _ h9 => h9) rfl dX6_acts_141 ?_
        refine lv_bipush (v := 10) hx hb dX6_acts_144 (by decide) ?_
        refine lv_iload_n hx hb dX6_acts_146 rfl (lv_at hl 3 rfl) ?_
        refine lv_imul hx hb dX6_acts_147 ?_
        refine lv_iload_n hx hb dX6_acts_148 rfl (lv_at hl 1 rfl) ?_
        refine lv_iadd hx hb dX6_acts_149 ?_
        obtain ⟨g_19, h⟩ := gd_some h
        refine va_iald hx hb hKz hP 14 0 (mw_arr (k := 14) (by decide) (by decide) (by decide)) rfl (inb_in g_19) dX6_acts_150 ?_
        refine lv_icmp_ge (tgt := 224) hx hb dX6_acts_151 (by decide) (fun c_20 => ?_) (fun c_20 => ?_)
        · rw [if_pos c_20] at h
          exact hk M_18 v3_139 _ _ _ h hP hS (lv_sub hl [0, 1, 2, 3] rfl)
        · rw [if_neg c_20] at h
          refine lv_bipush (v := 12) hx hb dX6_acts_154 (by decide) ?_
          refine lv_iload_n hx hb dX6_acts_156 rfl (lv_at hl 3 rfl) ?_
          refine lv_imul hx hb dX6_acts_157 ?_
          refine lv_aload_n hx hb dX6_acts_158 rfl (lv_at hl 2 rfl) ?_
          refine va_get (D := (dC, dI)) (ci := 6) (v := .ref (am 15)) (C := RX6) (T := TX6) (N := 29) hx hb hts jX6_acts_X6 hown hKz hP 0 mw_0 rfl 17 (by decide) (hts (.fieldLink RX6 53 "LendThreadsModel" "send" "[I") (by decide +kernel)) (fun _ h9 => h9) rfl dX6_acts_159 ?_
          refine lv_iconst (v := 2) hx hb dX6_acts_162 (by decide) ?_
          refine lv_bipush (v := 10) hx hb dX6_acts_163 (by decide) ?_
          refine lv_iload_n hx hb dX6_acts_165 rfl (lv_at hl 3 rfl) ?_
          refine lv_imul hx hb dX6_acts_166 ?_
          refine lv_iload_n hx hb dX6_acts_167 rfl (lv_at hl 1 rfl) ?_
          refine lv_iadd hx hb dX6_acts_168 ?_
          refine lv_imul hx hb dX6_acts_169 ?_
          refine lv_iload_n hx hb dX6_acts_170 rfl (lv_at hl 0 rfl) ?_
          refine lv_iadd hx hb dX6_acts_171 ?_
          obtain ⟨g_21, h⟩ := gd_some h
          refine va_iald hx hb hKz hP 15 0 (mw_arr (k := 15) (by decide) (by decide) (by decide)) rfl (inb_in g_21) dX6_acts_172 ?_
          refine lv_iadd hx hb dX6_acts_173 ?_
          refine lv_istore (lv' := [(4, .int ((12 * p1) + (M_18 15 ((2 * ((10 * p1) + (M 4 p1.toNatClampNeg))) + v3_139).toNatClampNeg))), (3, .int v3_139), (2, .int (M 4 p1.toNatClampNeg)), (0, .ref (am 0)), (1, .int p1)]) hx hb dX6_acts_174 hl (by decide) rfl (fun ls hl => ?_)
          refine lv_aload_n hx hb dX6_acts_176 rfl (lv_at hl 3 rfl) ?_
          refine va_get (D := (dC, dI)) (ci := 6) (v := .int (M_18 0 22)) (C := RX6) (T := TX6) (N := 29) hx hb hts jX6_acts_X6 hown hKz hP 0 mw_0 rfl 22 (by decide) (hts (.fieldLink RX6 99 "LendThreadsModel" "losing" "I") (by decide +kernel)) (fun _ h9 => h9) rfl dX6_acts_177 ?_
          refine lv_if_le (tgt := 207) hx hb dX6_acts_180 (by decide) (fun c_22 => ?_) (fun c_22 => ?_)
          · rw [if_pos c_22] at h
            refine lv_aload_n hx hb dX6_acts_207 rfl (lv_at hl 3 rfl) ?_
            refine va_get (D := (dC, dI)) (ci := 6) (v := .ref (am 18)) (C := RX6) (T := TX6) (N := 29) hx hb hts jX6_acts_X6 hown hKz hP 0 mw_0 rfl 20 (by decide) (hts (.fieldLink RX6 62 "LendThreadsModel" "there" "[I") (by decide +kernel)) (fun _ h9 => h9) rfl dX6_acts_208 ?_
            refine lv_iload hx hb dX6_acts_211 (lv_at hl 0 rfl) ?_
            refine lv_dup2_11 hx hb dX6_acts_213 rfl rfl ?_
            obtain ⟨g_23, h⟩ := gd_some h
            refine va_iald hx hb hKz hP 18 0 (mw_arr (k := 18) (by decide) (by decide) (by decide)) rfl (inb_in g_23) dX6_acts_214 ?_
            refine lv_iconst (v := 1) hx hb dX6_acts_215 (by decide) ?_
            refine lv_iadd hx hb dX6_acts_216 ?_
            obtain ⟨g_24, h⟩ := gd_some h
            refine va_iast hx hb hKz hP hD hS 18 0 (mw_arr (k := 18) (by decide) (by decide) (by decide)) rfl (inb_in g_24) dX6_acts_217 (fun H locs hP _ hS => ?_)
            have hP : va_P (dC, dI) vwCl (mW cI cZ am (up2 M_18 18 (((12 * p1) + (M_18 15 ((2 * ((10 * p1) + (M 4 p1.toNatClampNeg))) + v3_139).toNatClampNeg)).toNatClampNeg) ((M_18 18 ((12 * p1) + (M_18 15 ((2 * ((10 * p1) + (M 4 p1.toNatClampNeg))) + v3_139).toNatClampNeg)).toNatClampNeg) + 1))) H := by show va_P (dC, dI) vwCl (cwl 24 am (encM cI cZ am (up2 M_18 18 (((12 * p1) + (M_18 15 ((2 * ((10 * p1) + (M 4 p1.toNatClampNeg))) + v3_139).toNatClampNeg)).toNatClampNeg) ((M_18 18 ((12 * p1) + (M_18 15 ((2 * ((10 * p1) + (M 4 p1.toNatClampNeg))) + v3_139).toNatClampNeg)).toNatClampNeg) + 1)))) H; rw [← em_arr (k := 18) (by decide) (by decide), ← cwl_set (by decide)]; exact hP
            have hD := cwl_D hI (encM cI cZ am (up2 M_18 18 (((12 * p1) + (M_18 15 ((2 * ((10 * p1) + (M 4 p1.toNatClampNeg))) + v3_139).toNatClampNeg)).toNatClampNeg) ((M_18 18 ((12 * p1) + (M_18 15 ((2 * ((10 * p1) + (M 4 p1.toNatClampNeg))) + v3_139).toNatClampNeg)).toNatClampNeg) + 1)))
            generalize up2 M_18 18 (((12 * p1) + (M_18 15 ((2 * ((10 * p1) + (M 4 p1.toNatClampNeg))) + v3_139).toNatClampNeg)).toNatClampNeg) ((M_18 18 ((12 * p1) + (M_18 15 ((2 * ((10 * p1) + (M 4 p1.toNatClampNeg))) + v3_139).toNatClampNeg)).toNatClampNeg) + 1) = M_25 at hP hD h
            replace h := bm_e h
            try dsimp only at h
            refine lv_iinc (v := v3_139 + 1) (lv' := [(3, .int (v3_139 + 1)), (4, .int ((12 * p1) + (M_18 15 ((2 * ((10 * p1) + (M 4 p1.toNatClampNeg))) + v3_139).toNatClampNeg))), (2, .int (M 4 p1.toNatClampNeg)), (0, .ref (am 0)), (1, .int p1)]) hx hb dX6_acts_218 hl (k := 1) rfl rfl (by decide) rfl (fun ls hl => ?_)
            refine lv_goto (tgt := 139) hx hb dX6_acts_221 (by decide) ?_
            exact ih M_25 (v3_139 + 1) _ _ _ h hP hS (lv_sub hl [0, 2, 3, 4] rfl)
          · rw [if_neg c_22] at h
            refine lv_aload_n hx hb dX6_acts_183 rfl (lv_at hl 3 rfl) ?_
            refine lv_dup hx hb dX6_acts_184 rfl ?_
            refine va_get (D := (dC, dI)) (ci := 6) (v := .int (M_18 0 22)) (C := RX6) (T := TX6) (N := 29) hx hb hts jX6_acts_X6 hown hKz hP 0 mw_0 rfl 22 (by decide) (hts (.fieldLink RX6 99 "LendThreadsModel" "losing" "I") (by decide +kernel)) (fun _ h9 => h9) rfl dX6_acts_185 ?_
            refine lv_iconst (v := 1) hx hb dX6_acts_188 (by decide) ?_
            refine lv_isub hx hb dX6_acts_189 ?_
            refine va_put (D := (dC, dI)) (ci := 6) (v := .int ((M_18 0 22) - 1)) (ty := .int) (C := RX6) (T := TX6) (N := 29) hx hb hts jX6_acts_X6 tyX6 tyX6_ok nmX6 hown hKz hP hD hS 0 mw_0 rfl 22 (by decide) (hts (.fieldLink RX6 99 "LendThreadsModel" "losing" "I") (by decide +kernel)) (fun _ h9 => h9) rfl (by decide +kernel) rfl rfl (Nat.le_of_ble_eq_true rfl) dX6_acts_190 (fun H locs hP _ hS => ?_)
            have hP : va_P (dC, dI) vwCl (mW cI cZ am (up2 M_18 0 22 ((M_18 0 22) - 1))) H := by show va_P (dC, dI) vwCl (cwl 24 am (encM cI cZ am (up2 M_18 0 22 ((M_18 0 22) - 1)))) H; rw [← em_losing, ← cwl_set (by decide)]; exact hP
            have hD := cwl_D hI (encM cI cZ am (up2 M_18 0 22 ((M_18 0 22) - 1)))
            generalize up2 M_18 0 22 ((M_18 0 22) - 1) = M_26 at hP hD h
            replace h := bm_e h
            try dsimp only at h
            refine lv_aload_n hx hb dX6_acts_193 rfl (lv_at hl 3 rfl) ?_
            refine va_get (D := (dC, dI)) (ci := 6) (v := .ref (am 19)) (C := RX6) (T := TX6) (N := 29) hx hb hts jX6_acts_X6 hown hKz hP 0 mw_0 rfl 21 (by decide) (hts (.fieldLink RX6 65 "LendThreadsModel" "lost" "[I") (by decide +kernel)) (fun _ h9 => h9) rfl dX6_acts_194 ?_
            refine lv_iload hx hb dX6_acts_197 (lv_at hl 0 rfl) ?_
            refine lv_dup2_11 hx hb dX6_acts_199 rfl rfl ?_
            obtain ⟨g_27, h⟩ := gd_some h
            refine va_iald hx hb hKz hP 19 0 (mw_arr (k := 19) (by decide) (by decide) (by decide)) rfl (inb_in g_27) dX6_acts_200 ?_
            refine lv_iconst (v := 1) hx hb dX6_acts_201 (by decide) ?_
            refine lv_iadd hx hb dX6_acts_202 ?_
            obtain ⟨g_28, h⟩ := gd_some h
            refine va_iast hx hb hKz hP hD hS 19 0 (mw_arr (k := 19) (by decide) (by decide) (by decide)) rfl (inb_in g_28) dX6_acts_203 (fun H locs hP _ hS => ?_)
            have hP : va_P (dC, dI) vwCl (mW cI cZ am (up2 M_26 19 (((12 * p1) + (M_18 15 ((2 * ((10 * p1) + (M 4 p1.toNatClampNeg))) + v3_139).toNatClampNeg)).toNatClampNeg) ((M_26 19 ((12 * p1) + (M_18 15 ((2 * ((10 * p1) + (M 4 p1.toNatClampNeg))) + v3_139).toNatClampNeg)).toNatClampNeg) + 1))) H := by show va_P (dC, dI) vwCl (cwl 24 am (encM cI cZ am (up2 M_26 19 (((12 * p1) + (M_18 15 ((2 * ((10 * p1) + (M 4 p1.toNatClampNeg))) + v3_139).toNatClampNeg)).toNatClampNeg) ((M_26 19 ((12 * p1) + (M_18 15 ((2 * ((10 * p1) + (M 4 p1.toNatClampNeg))) + v3_139).toNatClampNeg)).toNatClampNeg) + 1)))) H; rw [← em_arr (k := 19) (by decide) (by decide), ← cwl_set (by decide)]; exact hP
            have hD := cwl_D hI (encM cI cZ am (up2 M_26 19 (((12 * p1) + (M_18 15 ((2 * ((10 * p1) + (M 4 p1.toNatClampNeg))) + v3_139).toNatClampNeg)).toNatClampNeg) ((M_26 19 ((12 * p1) + (M_18 15 ((2 * ((10 * p1) + (M 4 p1.toNatClampNeg))) + v3_139).toNatClampNeg)).toNatClampNeg) + 1)))
            generalize up2 M_26 19 (((12 * p1) + (M_18 15 ((2 * ((10 * p1) + (M 4 p1.toNatClampNeg))) + v3_139).toNatClampNeg)).toNatClampNeg) ((M_26 19 ((12 * p1) + (M_18 15 ((2 * ((10 * p1) + (M 4 p1.toNatClampNeg))) + v3_139).toNatClampNeg)).toNatClampNeg) + 1) = M_29 at hP hD h
            replace h := bm_e h
            try dsimp only at h
            refine lv_goto (tgt := 218) hx hb dX6_acts_204 (by decide) ?_
            refine lv_iinc (v := v3_139 + 1) (lv' := [(3, .int (v3_139 + 1)), (4, .int ((12 * p1) + (M_18 15 ((2 * ((10 * p1) + (M 4 p1.toNatClampNeg))) + v3_139).toNatClampNeg))), (2, .int (M 4 p1.toNatClampNeg)), (0, .ref (am 0)), (1, .int p1)]) hx hb dX6_acts_218 hl (k := 1) rfl rfl (by decide) rfl (fun ls hl => ?_)
            refine lv_goto (tgt := 139) hx hb dX6_acts_221 (by decide) ?_
            exact ih M_29 (v3_139 + 1) _ _ _ h hP hS (lv_sub hl [0, 2, 3, 4] rfl)
    refine key139 _ (fun M_18 v3_139 H locs ls h hP hS hl => ?_) 4000 M_2 0 _ _ _ h hP hS (lv_sub hl [0, 1, 2, 3] rfl)
    have hD := cwl_D hI (encM cI cZ am M_18)
    try dsimp only at h
    refine lv_aload_n hx hb dX6_acts_224 rfl (lv_at hl 2 rfl) ?_
    refine va_get (D := (dC, dI)) (ci := 6) (v := .ref (am 4)) (C := RX6) (T := TX6) (N := 29) hx hb hts jX6_acts_X6 hown hKz hP 0 mw_0 rfl 5 (by decide) (hts (.fieldLink RX6 19 "LendThreadsModel" "step" "[I") (by decide +kernel)) (fun _ h9 => h9) rfl dX6_acts_225 ?_
    refine lv_iload_n hx hb dX6_acts_228 rfl (lv_at hl 3 rfl) ?_
    refine lv_dup2_11 hx hb dX6_acts_229 rfl rfl ?_
    obtain ⟨g_30, h⟩ := gd_some h
    refine va_iald hx hb hKz hP 4 0 (mw_arr (k := 4) (by decide) (by decide) (by decide)) rfl (inb_in g_30) dX6_acts_230 ?_
    refine lv_iconst (v := 1) hx hb dX6_acts_231 (by decide) ?_
    refine lv_iadd hx hb dX6_acts_232 ?_
    obtain ⟨g_31, h⟩ := gd_some h
    refine va_iast hx hb hKz hP hD hS 4 0 (mw_arr (k := 4) (by decide) (by decide) (by decide)) rfl (inb_in g_31) dX6_acts_233 (fun H locs hP _ hS => ?_)
    have hP : va_P (dC, dI) vwCl (mW cI cZ am (up2 M_18 4 p1.toNatClampNeg ((M_18 4 p1.toNatClampNeg) + 1))) H := by show va_P (dC, dI) vwCl (cwl 24 am (encM cI cZ am (up2 M_18 4 p1.toNatClampNeg ((M_18 4 p1.toNatClampNeg) + 1)))) H; rw [← em_arr (k := 4) (by decide) (by decide), ← cwl_set (by decide)]; exact hP
    have hD := cwl_D hI (encM cI cZ am (up2 M_18 4 p1.toNatClampNeg ((M_18 4 p1.toNatClampNeg) + 1)))
    generalize up2 M_18 4 p1.toNatClampNeg ((M_18 4 p1.toNatClampNeg) + 1) = M_32 at hP hD h
    replace h := bm_e h
    try dsimp only at h
    refine lv_aload_n hx hb dX6_acts_234 rfl (lv_at hl 2 rfl) ?_
    refine va_get (D := (dC, dI)) (ci := 6) (v := .ref (am 5)) (C := RX6) (T := TX6) (N := 29) hx hb hts jX6_acts_X6 hown hKz hP 0 mw_0 rfl 6 (by decide) (hts (.fieldLink RX6 22 "LendThreadsModel" "got" "[I") (by decide +kernel)) (fun _ h9 => h9) rfl dX6_acts_235 ?_
    refine lv_iload_n hx hb dX6_acts_238 rfl (lv_at hl 3 rfl) ?_
    refine lv_iconst (v := 0) hx hb dX6_acts_239 (by decide) ?_
    obtain ⟨g_33, h⟩ := gd_some h
    refine va_iast hx hb hKz hP hD hS 5 0 (mw_arr (k := 5) (by decide) (by decide) (by decide)) rfl (inb_in g_33) dX6_acts_240 (fun H locs hP _ hS => ?_)
    have hP : va_P (dC, dI) vwCl (mW cI cZ am (up2 M_32 5 p1.toNatClampNeg 0)) H := by show va_P (dC, dI) vwCl (cwl 24 am (encM cI cZ am (up2 M_32 5 p1.toNatClampNeg 0))) H; rw [← em_arr (k := 5) (by decide) (by decide), ← cwl_set (by decide)]; exact hP
    have hD := cwl_D hI (encM cI cZ am (up2 M_32 5 p1.toNatClampNeg 0))
    generalize up2 M_32 5 p1.toNatClampNeg 0 = M_34 at hP hD h
    replace h := bm_e h
    try dsimp only at h
    refine lv_aload_n hx hb dX6_acts_241 rfl (lv_at hl 2 rfl) ?_
    refine va_get (D := (dC, dI)) (ci := 6) (v := .ref (am 4)) (C := RX6) (T := TX6) (N := 29) hx hb hts jX6_acts_X6 hown hKz hP 0 mw_0 rfl 5 (by decide) (hts (.fieldLink RX6 19 "LendThreadsModel" "step" "[I") (by decide +kernel)) (fun _ h9 => h9) rfl dX6_acts_242 ?_
    refine lv_iload_n hx hb dX6_acts_245 rfl (lv_at hl 3 rfl) ?_
    obtain ⟨g_35, h⟩ := gd_some h
    refine va_iald hx hb hKz hP 4 0 (mw_arr (k := 4) (by decide) (by decide) (by decide)) rfl (inb_in g_35) dX6_acts_246 ?_
    refine lv_aload_n hx hb dX6_acts_247 rfl (lv_at hl 2 rfl) ?_
    refine va_get (D := (dC, dI)) (ci := 6) (v := .ref (am 1)) (C := RX6) (T := TX6) (N := 29) hx hb hts jX6_acts_X6 hown hKz hP 0 mw_0 rfl 2 (by decide) (hts (.fieldLink RX6 7 "LendThreadsModel" "steps" "[I") (by decide +kernel)) (fun _ h9 => h9) rfl dX6_acts_248 ?_
    refine lv_iload_n hx hb dX6_acts_251 rfl (lv_at hl 3 rfl) ?_
    obtain ⟨g_36, h⟩ := gd_some h
    refine va_iald hx hb hKz hP 1 0 (mw_arr (k := 1) (by decide) (by decide) (by decide)) rfl (inb_in g_36) dX6_acts_252 ?_
    refine lv_icmp_ne (tgt := 268) hx hb dX6_acts_253 (by decide) (fun c_37 => ?_) (fun c_37 => ?_)
    · rw [if_neg c_37] at h
      replace h := Option.some.inj h
      subst h
      exact W.vret hx hb hr (fun t ht hW => ⟨⟨_, rfl, rfl, (show va_P (dC, dI) vwCl (mW cI cZ am M_34) t.heap by rw [ht]; exact hP)⟩, hS.F ht⟩) hS.2.2 dX6_acts_268
    · rw [if_pos c_37] at h
      refine lv_aload_n hx hb dX6_acts_256 rfl (lv_at hl 2 rfl) ?_
      refine lv_iload_n hx hb dX6_acts_257 rfl (lv_at hl 3 rfl) ?_
      obtain ⟨q_38, hq_38, h⟩ := bi_some h
      refine va_callv (va_runV (As := [.int p1]) (rest := []) ⟨hx, hb, hml, hown, hts⟩ (k_X6_frees l dC dI cI cZ am hI M_34 p1 q_38 hq_38) (cwV 1 hts gX6_acts_X6_frees rfl rfl rfl (by decide +kernel) ⟨Nat.le_of_ble_eq_true rfl, Nat.le_of_ble_eq_true rfl⟩) (gm_preV hKK hKz hP (va_recv hKz hP (ci := 6) (q0 := 0) rfl mw_0)) rfl rfl hl.1 rfl (lv_room (Nat.le_of_ble_eq_true rfl)) dX6_acts_258 ⟨Nat.zero_le _, Nat.zero_le _⟩) hS (fun q _ h => h) (fun q h => h) (fun M_40 t H locs ht hvm hw hP hz1 hk1 hS => ?_)
      replace hw := hw.symm
      subst hw
      rw [ht] at hP
      have hD := cwl_D hI (encM cI cZ am q_38)
      refine lv_aload_n hx hb dX6_acts_261 rfl (lv_at hl 2 rfl) ?_
      refine va_get (D := (dC, dI)) (ci := 6) (v := .ref (am 3)) (C := RX6) (T := TX6) (N := 29) hx hb hts jX6_acts_X6 hown hKz hP 0 mw_0 rfl 4 (by decide) (hts (.fieldLink RX6 16 "LendThreadsModel" "state" "[I") (by decide +kernel)) (fun _ h9 => h9) rfl dX6_acts_262 ?_
      refine lv_iload_n hx hb dX6_acts_265 rfl (lv_at hl 3 rfl) ?_
      refine lv_iconst (v := 1) hx hb dX6_acts_266 (by decide) ?_
      obtain ⟨g_41, h⟩ := gd_some h
      refine va_iast hx hb hKz hP hD hS 3 0 (mw_arr (k := 3) (by decide) (by decide) (by decide)) rfl (inb_in g_41) dX6_acts_267 (fun H locs hP _ hS => ?_)
      have hP : va_P (dC, dI) vwCl (mW cI cZ am (up2 q_38 3 p1.toNatClampNeg 1)) H := by show va_P (dC, dI) vwCl (cwl 24 am (encM cI cZ am (up2 q_38 3 p1.toNatClampNeg 1))) H; rw [← em_arr (k := 3) (by decide) (by decide), ← cwl_set (by decide)]; exact hP
      have hD := cwl_D hI (encM cI cZ am (up2 q_38 3 p1.toNatClampNeg 1))
      generalize up2 q_38 3 p1.toNatClampNeg 1 = M_42 at hP hD h
      replace h := bm_e h
      try dsimp only at h
      replace h := Option.some.inj h
      subst h
      exact W.vret hx hb hr (fun t ht hW => ⟨⟨_, rfl, rfl, (show va_P (dC, dI) vwCl (mW cI cZ am M_42) t.heap by rw [ht]; exact hP)⟩, hS.F ht⟩) hS.2.2 dX6_acts_268
  · rw [if_neg c_17] at h
    refine lv_aload_n hx hb dX6_acts_112 rfl (lv_at hl 2 rfl) ?_
    refine va_get (D := (dC, dI)) (ci := 6) (v := .ref (am 23)) (C := RX6) (T := TX6) (N := 29) hx hb hts jX6_acts_X6 hown hKz hP 0 mw_0 rfl 28 (by decide) (hts (.fieldLink RX6 77 "LendThreadsModel" "log" "[I") (by decide +kernel)) (fun _ h9 => h9) rfl dX6_acts_113 ?_
    refine lv_aload_n hx hb dX6_acts_116 rfl (lv_at hl 2 rfl) ?_
    refine va_get (D := (dC, dI)) (ci := 6) (v := .int (M_2 0 27)) (C := RX6) (T := TX6) (N := 29) hx hb hts jX6_acts_X6 hown hKz hP 0 mw_0 rfl 27 (by decide) (hts (.fieldLink RX6 116 "LendThreadsModel" "logged" "I") (by decide +kernel)) (fun _ h9 => h9) rfl dX6_acts_117 ?_
    refine lv_bipush (v := 100) hx hb dX6_acts_120 (by decide) ?_
    refine lv_iload_n hx hb dX6_acts_122 rfl (lv_at hl 3 rfl) ?_
    refine lv_imul hx hb dX6_acts_123 ?_
    refine lv_iload_n hx hb dX6_acts_124 rfl (lv_at hl 1 rfl) ?_
    refine lv_iadd hx hb dX6_acts_125 ?_
    obtain ⟨g_43, h⟩ := gd_some h
    refine va_iast hx hb hKz hP hD hS 23 0 (mw_arr (k := 23) (by decide) (by decide) (by decide)) rfl (inb_in g_43) dX6_acts_126 (fun H locs hP _ hS => ?_)
    have hP : va_P (dC, dI) vwCl (mW cI cZ am (up2 M_2 23 ((M_2 0 27).toNatClampNeg) ((100 * p1) + (M 4 p1.toNatClampNeg)))) H := by show va_P (dC, dI) vwCl (cwl 24 am (encM cI cZ am (up2 M_2 23 ((M_2 0 27).toNatClampNeg) ((100 * p1) + (M 4 p1.toNatClampNeg))))) H; rw [← em_arr (k := 23) (by decide) (by decide), ← cwl_set (by decide)]; exact hP
    have hD := cwl_D hI (encM cI cZ am (up2 M_2 23 ((M_2 0 27).toNatClampNeg) ((100 * p1) + (M 4 p1.toNatClampNeg))))
    generalize up2 M_2 23 ((M_2 0 27).toNatClampNeg) ((100 * p1) + (M 4 p1.toNatClampNeg)) = M_44 at hP hD h
    replace h := bm_e h
    try dsimp only at h
    refine lv_aload_n hx hb dX6_acts_127 rfl (lv_at hl 2 rfl) ?_
    refine lv_dup hx hb dX6_acts_128 rfl ?_
    refine va_get (D := (dC, dI)) (ci := 6) (v := .int (M_44 0 27)) (C := RX6) (T := TX6) (N := 29) hx hb hts jX6_acts_X6 hown hKz hP 0 mw_0 rfl 27 (by decide) (hts (.fieldLink RX6 116 "LendThreadsModel" "logged" "I") (by decide +kernel)) (fun _ h9 => h9) rfl dX6_acts_129 ?_
    refine lv_iconst (v := 1) hx hb dX6_acts_132 (by decide) ?_
    refine lv_iadd hx hb dX6_acts_133 ?_
    refine va_put (D := (dC, dI)) (ci := 6) (v := .int ((M_44 0 27) + 1)) (ty := .int) (C := RX6) (T := TX6) (N := 29) hx hb hts jX6_acts_X6 tyX6 tyX6_ok nmX6 hown hKz hP hD hS 0 mw_0 rfl 27 (by decide) (hts (.fieldLink RX6 116 "LendThreadsModel" "logged" "I") (by decide +kernel)) (fun _ h9 => h9) rfl (by decide +kernel) rfl rfl (Nat.le_of_ble_eq_true rfl) dX6_acts_134 (fun H locs hP _ hS => ?_)
    have hP : va_P (dC, dI) vwCl (mW cI cZ am (up2 M_44 0 27 ((M_44 0 27) + 1))) H := by show va_P (dC, dI) vwCl (cwl 24 am (encM cI cZ am (up2 M_44 0 27 ((M_44 0 27) + 1)))) H; rw [← em_logged, ← cwl_set (by decide)]; exact hP
    have hD := cwl_D hI (encM cI cZ am (up2 M_44 0 27 ((M_44 0 27) + 1)))
    generalize up2 M_44 0 27 ((M_44 0 27) + 1) = M_45 at hP hD h
    replace h := bm_e h
    try dsimp only at h
    refine lv_iconst (v := 0) hx hb dX6_acts_137 (by decide) ?_
    refine lv_istore_n (lv' := [(3, .int 0), (2, .int (M 4 p1.toNatClampNeg)), (0, .ref (am 0)), (1, .int p1)]) hx hb dX6_acts_138 rfl hl (by decide) rfl (fun ls hl => ?_)
    have key139 : ∀ (K : Mem → Int32 → Option (Mem)), (∀ (M_46 : Mem) (v3_139 : Int32) (H : Heap) (locs : List Loc) (ls : Array Slot), K M_46 v3_139 = some q → va_P (dC, dI) vwCl (mW cI cZ am M_46) H → va_S (Ac 24 am) s.heap H locs → lv_has ls 5 [(3, .int v3_139), (2, .int (M 4 p1.toNatClampNeg)), (0, .ref (am 0)), (1, .int p1)] → W p l e (headSpec wsX6_acts ({ frames := 1, cells := 0, slots := 0, locals := 23 })).room s m ([.ref (am 0), .int p1] : List Value).toArray below meth c H locs 0 0 (MQ below (va_Qv (fun M' => M' = q) (fun M' t => va_P (dC, dI) vwCl (mW cI cZ am M') t.heap) (Ac 24 am)) ([.ref (am 0), .int p1] : List Value).toArray s 0 0 (Ac 24 am)) (F0 m 224 ls [])) → ∀ (n : Nat), ∀ (M_46 : Mem) (v3_139 : Int32) (H : Heap) (locs : List Loc) (ls : Array Slot), L_X6_acts_139 K (M 4 p1.toNatClampNeg) p1 n M_46 v3_139 = some q → va_P (dC, dI) vwCl (mW cI cZ am M_46) H → va_S (Ac 24 am) s.heap H locs → lv_has ls 5 [(3, .int v3_139), (2, .int (M 4 p1.toNatClampNeg)), (0, .ref (am 0)), (1, .int p1)] → W p l e (headSpec wsX6_acts ({ frames := 1, cells := 0, slots := 0, locals := 23 })).room s m ([.ref (am 0), .int p1] : List Value).toArray below meth c H locs 0 0 (MQ below (va_Qv (fun M' => M' = q) (fun M' t => va_P (dC, dI) vwCl (mW cI cZ am M') t.heap) (Ac 24 am)) ([.ref (am 0), .int p1] : List Value).toArray s 0 0 (Ac 24 am)) (F0 m 139 ls []) := by
      intro K hk n
      induction n with
      | zero =>
        intro M_46 v3_139 H locs ls h
        exact absurd h (by simp [L_X6_acts_139])
      | succ n ih =>
        intro M_46 v3_139 H locs ls h hP hS hl
        have hD := cwl_D hI (encM cI cZ am M_46)
        simp only [L_X6_acts_139] at h
        refine lv_iload_n hx hb dX6_acts_139 rfl (lv_at hl 0 rfl) ?_
        refine lv_aload_n hx hb dX6_acts_140 rfl (lv_at hl 2 rfl) ?_
        refine va_get (D := (dC, dI)) (ci := 6) (v := .ref (am 14)) (C := RX6) (T := TX6) (N := 29) hx hb hts jX6_acts_X6 hown hKz hP 0 mw_0 rfl 16 (by decide) (hts (.fieldLink RX6 50 "LendThreadsModel" "sendCount" "[I") (by decide +kernel)) (fun _ h9 => h9) rfl dX6_acts_141 ?_
        refine lv_bipush (v := 10) hx hb dX6_acts_144 (by decide) ?_
        refine lv_iload_n hx hb dX6_acts_146 rfl (lv_at hl 3 rfl) ?_
        refine lv_imul hx hb dX6_acts_147 ?_
        refine lv_iload_n hx hb dX6_acts_148 rfl (lv_at hl 1 rfl) ?_
        refine lv_iadd hx hb dX6_acts_149 ?_
        obtain ⟨g_47, h⟩ := gd_some h
        refine va_iald hx hb hKz hP 14 0 (mw_arr (k := 14) (by decide) (by decide) (by decide)) rfl (inb_in g_47) dX6_acts_150 ?_
        refine lv_icmp_ge (tgt := 224) hx hb dX6_acts_151 (by decide) (fun c_48 => ?_) (fun c_48 => ?_)
        · rw [if_pos c_48] at h
          exact hk M_46 v3_139 _ _ _ h hP hS (lv_sub hl [0, 1, 2, 3] rfl)
        · rw [if_neg c_48] at h
          refine lv_bipush (v := 12) hx hb dX6_acts_154 (by decide) ?_
          refine lv_iload_n hx hb dX6_acts_156 rfl (lv_at hl 3 rfl) ?_
          refine lv_imul hx hb dX6_acts_157 ?_
          refine lv_aload_n hx hb dX6_acts_158 rfl (lv_at hl 2 rfl) ?_
          refine va_get (D := (dC, dI)) (ci := 6) (v := .ref (am 15)) (C := RX6) (T := TX6) (N := 29) hx hb hts jX6_acts_X6 hown hKz hP 0 mw_0 rfl 17 (by decide) (hts (.fieldLink RX6 53 "LendThreadsModel" "send" "[I") (by decide +kernel)) (fun _ h9 => h9) rfl dX6_acts_159 ?_
          refine lv_iconst (v := 2) hx hb dX6_acts_162 (by decide) ?_
          refine lv_bipush (v := 10) hx hb dX6_acts_163 (by decide) ?_
          refine lv_iload_n hx hb dX6_acts_165 rfl (lv_at hl 3 rfl) ?_
          refine lv_imul hx hb dX6_acts_166 ?_
          refine lv_iload_n hx hb dX6_acts_167 rfl (lv_at hl 1 rfl) ?_
          refine lv_iadd hx hb dX6_acts_168 ?_
          refine lv_imul hx hb dX6_acts_169 ?_
          refine lv_iload_n hx hb dX6_acts_170 rfl (lv_at hl 0 rfl) ?_
          refine lv_iadd hx hb dX6_acts_171 ?_
          obtain ⟨g_49, h⟩ := gd_some h
          refine va_iald hx hb hKz hP 15 0 (mw_arr (k := 15) (by decide) (by decide) (by decide)) rfl (inb_in g_49) dX6_acts_172 ?_
          refine lv_iadd hx hb dX6_acts_173 ?_
          refine lv_istore (lv' := [(4, .int ((12 * p1) + (M_46 15 ((2 * ((10 * p1) + (M 4 p1.toNatClampNeg))) + v3_139).toNatClampNeg))), (3, .int v3_139), (2, .int (M 4 p1.toNatClampNeg)), (0, .ref (am 0)), (1, .int p1)]) hx hb dX6_acts_174 hl (by decide) rfl (fun ls hl => ?_)
          refine lv_aload_n hx hb dX6_acts_176 rfl (lv_at hl 3 rfl) ?_
          refine va_get (D := (dC, dI)) (ci := 6) (v := .int (M_46 0 22)) (C := RX6) (T := TX6) (N := 29) hx hb hts jX6_acts_X6 hown hKz hP 0 mw_0 rfl 22 (by decide) (hts (.fieldLink RX6 99 "LendThreadsModel" "losing" "I") (by decide +kernel)) (fun _ h9 => h9) rfl dX6_acts_177 ?_
          refine lv_if_le (tgt := 207) hx hb dX6_acts_180 (by decide) (fun c_50 => ?_) (fun c_50 => ?_)
          · rw [if_pos c_50] at h
            refine lv_aload_n hx hb dX6_acts_207 rfl (lv_at hl 3 rfl) ?_
            refine va_get (D := (dC, dI)) (ci := 6) (v := .ref (am 18)) (C := RX6) (T := TX6) (N := 29) hx hb hts jX6_acts_X6 hown hKz hP 0 mw_0 rfl 20 (by decide) (hts (.fieldLink RX6 62 "LendThreadsModel" "there" "[I") (by decide +kernel)) (fun _ h9 => h9) rfl dX6_acts_208 ?_
            refine lv_iload hx hb dX6_acts_211 (lv_at hl 0 rfl) ?_
            refine lv_dup2_11 hx hb dX6_acts_213 rfl rfl ?_
            obtain ⟨g_51, h⟩ := gd_some h
            refine va_iald hx hb hKz hP 18 0 (mw_arr (k := 18) (by decide) (by decide) (by decide)) rfl (inb_in g_51) dX6_acts_214 ?_
            refine lv_iconst (v := 1) hx hb dX6_acts_215 (by decide) ?_
            refine lv_iadd hx hb dX6_acts_216 ?_
            obtain ⟨g_52, h⟩ := gd_some h
            refine va_iast hx hb hKz hP hD hS 18 0 (mw_arr (k := 18) (by decide) (by decide) (by decide)) rfl (inb_in g_52) dX6_acts_217 (fun H locs hP _ hS => ?_)
            have hP : va_P (dC, dI) vwCl (mW cI cZ am (up2 M_46 18 (((12 * p1) + (M_46 15 ((2 * ((10 * p1) + (M 4 p1.toNatClampNeg))) + v3_139).toNatClampNeg)).toNatClampNeg) ((M_46 18 ((12 * p1) + (M_46 15 ((2 * ((10 * p1) + (M 4 p1.toNatClampNeg))) + v3_139).toNatClampNeg)).toNatClampNeg) + 1))) H := by show va_P (dC, dI) vwCl (cwl 24 am (encM cI cZ am (up2 M_46 18 (((12 * p1) + (M_46 15 ((2 * ((10 * p1) + (M 4 p1.toNatClampNeg))) + v3_139).toNatClampNeg)).toNatClampNeg) ((M_46 18 ((12 * p1) + (M_46 15 ((2 * ((10 * p1) + (M 4 p1.toNatClampNeg))) + v3_139).toNatClampNeg)).toNatClampNeg) + 1)))) H; rw [← em_arr (k := 18) (by decide) (by decide), ← cwl_set (by decide)]; exact hP
            have hD := cwl_D hI (encM cI cZ am (up2 M_46 18 (((12 * p1) + (M_46 15 ((2 * ((10 * p1) + (M 4 p1.toNatClampNeg))) + v3_139).toNatClampNeg)).toNatClampNeg) ((M_46 18 ((12 * p1) + (M_46 15 ((2 * ((10 * p1) + (M 4 p1.toNatClampNeg))) + v3_139).toNatClampNeg)).toNatClampNeg) + 1)))
            generalize up2 M_46 18 (((12 * p1) + (M_46 15 ((2 * ((10 * p1) + (M 4 p1.toNatClampNeg))) + v3_139).toNatClampNeg)).toNatClampNeg) ((M_46 18 ((12 * p1) + (M_46 15 ((2 * ((10 * p1) + (M 4 p1.toNatClampNeg))) + v3_139).toNatClampNeg)).toNatClampNeg) + 1) = M_53 at hP hD h
            replace h := bm_e h
            try dsimp only at h
            refine lv_iinc (v := v3_139 + 1) (lv' := [(3, .int (v3_139 + 1)), (4, .int ((12 * p1) + (M_46 15 ((2 * ((10 * p1) + (M 4 p1.toNatClampNeg))) + v3_139).toNatClampNeg))), (2, .int (M 4 p1.toNatClampNeg)), (0, .ref (am 0)), (1, .int p1)]) hx hb dX6_acts_218 hl (k := 1) rfl rfl (by decide) rfl (fun ls hl => ?_)
            refine lv_goto (tgt := 139) hx hb dX6_acts_221 (by decide) ?_
            exact ih M_53 (v3_139 + 1) _ _ _ h hP hS (lv_sub hl [0, 2, 3, 4] rfl)
          · rw [if_neg c_50] at h
            refine lv_aload_n hx hb dX6_acts_183 rfl (lv_at hl 3 rfl) ?_
            refine lv_dup hx hb dX6_acts_184 rfl ?_
            refine va_get (D := (dC, dI)) (ci := 6) (v := .int (M_46 0 22)) (C := RX6) (T := TX6) (N := 29) hx hb hts jX6_acts_X6 hown hKz hP 0 mw_0 rfl 22 (by decide) (hts (.fieldLink RX6 99 "LendThreadsModel" "losing" "I") (by decide +kernel)) (fun _ h9 => h9) rfl dX6_acts_185 ?_
            refine lv_iconst (v := 1) hx hb dX6_acts_188 (by decide) ?_
            refine lv_isub hx hb dX6_acts_189 ?_
            refine va_put (D := (dC, dI)) (ci := 6) (v := .int ((M_46 0 22) - 1)) (ty := .int) (C := RX6) (T := TX6) (N := 29) hx hb hts jX6_acts_X6 tyX6 tyX6_ok nmX6 hown hKz hP hD hS 0 mw_0 rfl 22 (by decide) (hts (.fieldLink RX6 99 "LendThreadsModel" "losing" "I") (by decide +kernel)) (fun _ h9 => h9) rfl (by decide +kernel) rfl rfl (Nat.le_of_ble_eq_true rfl) dX6_acts_190 (fun H locs hP _ hS => ?_)
            have hP : va_P (dC, dI) vwCl (mW cI cZ am (up2 M_46 0 22 ((M_46 0 22) - 1))) H := by show va_P (dC, dI) vwCl (cwl 24 am (encM cI cZ am (up2 M_46 0 22 ((M_46 0 22) - 1)))) H; rw [← em_losing, ← cwl_set (by decide)]; exact hP
            have hD := cwl_D hI (encM cI cZ am (up2 M_46 0 22 ((M_46 0 22) - 1)))
            generalize up2 M_46 0 22 ((M_46 0 22) - 1) = M_54 at hP hD h
            replace h := bm_e h
            try dsimp only at h
            refine lv_aload_n hx hb dX6_acts_193 rfl (lv_at hl 3 rfl) ?_
            refine va_get (D := (dC, dI)) (ci := 6) (v := .ref (am 19)) (C := RX6) (T := TX6) (N := 29) hx hb hts jX6_acts_X6 hown hKz hP 0 mw_0 rfl 21 (by decide) (hts (.fieldLink RX6 65 "LendThreadsModel" "lost" "[I") (by decide +kernel)) (fun _ h9 => h9) rfl dX6_acts_194 ?_
            refine lv_iload hx hb dX6_acts_197 (lv_at hl 0 rfl) ?_
            refine lv_dup2_11 hx hb dX6_acts_199 rfl rfl ?_
            obtain ⟨g_55, h⟩ := gd_some h
            refine va_iald hx hb hKz hP 19 0 (mw_arr (k := 19) (by decide) (by decide) (by decide)) rfl (inb_in g_55) dX6_acts_200 ?_
            refine lv_iconst (v := 1) hx hb dX6_acts_201 (by decide) ?_
            refine lv_iadd hx hb dX6_acts_202 ?_
            obtain ⟨g_56, h⟩ := gd_some h
            refine va_iast hx hb hKz hP hD hS 19 0 (mw_arr (k := 19) (by decide) (by decide) (by decide)) rfl (inb_in g_56) dX6_acts_203 (fun H locs hP _ hS => ?_)
            have hP : va_P (dC, dI) vwCl (mW cI cZ am (up2 M_54 19 (((12 * p1) + (M_46 15 ((2 * ((10 * p1) + (M 4 p1.toNatClampNeg))) + v3_139).toNatClampNeg)).toNatClampNeg) ((M_54 19 ((12 * p1) + (M_46 15 ((2 * ((10 * p1) + (M 4 p1.toNatClampNeg))) + v3_139).toNatClampNeg)).toNatClampNeg) + 1))) H := by show va_P (dC, dI) vwCl (cwl 24 am (encM cI cZ am (up2 M_54 19 (((12 * p1) + (M_46 15 ((2 * ((10 * p1) + (M 4 p1.toNatClampNeg))) + v3_139).toNatClampNeg)).toNatClampNeg) ((M_54 19 ((12 * p1) + (M_46 15 ((2 * ((10 * p1) + (M 4 p1.toNatClampNeg))) + v3_139).toNatClampNeg)).toNatClampNeg) + 1)))) H; rw [← em_arr (k := 19) (by decide) (by decide), ← cwl_set (by decide)]; exact hP
            have hD := cwl_D hI (encM cI cZ am (up2 M_54 19 (((12 * p1) + (M_46 15 ((2 * ((10 * p1) + (M 4 p1.toNatClampNeg))) + v3_139).toNatClampNeg)).toNatClampNeg) ((M_54 19 ((12 * p1) + (M_46 15 ((2 * ((10 * p1) + (M 4 p1.toNatClampNeg))) + v3_139).toNatClampNeg)).toNatClampNeg) + 1)))
            generalize up2 M_54 19 (((12 * p1) + (M_46 15 ((2 * ((10 * p1) + (M 4 p1.toNatClampNeg))) + v3_139).toNatClampNeg)).toNatClampNeg) ((M_54 19 ((12 * p1) + (M_46 15 ((2 * ((10 * p1) + (M 4 p1.toNatClampNeg))) + v3_139).toNatClampNeg)).toNatClampNeg) + 1) = M_57 at hP hD h
            replace h := bm_e h
            try dsimp only at h
            refine lv_goto (tgt := 218) hx hb dX6_acts_204 (by decide) ?_
            refine lv_iinc (v := v3_139 + 1) (lv' := [(3, .int (v3_139 + 1)), (4, .int ((12 * p1) + (M_46 15 ((2 * ((10 * p1) + (M 4 p1.toNatClampNeg))) + v3_139).toNatClampNeg))), (2, .int (M 4 p1.toNatClampNeg)), (0, .ref (am 0)), (1, .int p1)]) hx hb dX6_acts_218 hl (k := 1) rfl rfl (by decide) rfl (fun ls hl => ?_)
            refine lv_goto (tgt := 139) hx hb dX6_acts_221 (by decide) ?_
            exact ih M_57 (v3_139 + 1) _ _ _ h hP hS (lv_sub hl [0, 2, 3, 4] rfl)
    refine key139 _ (fun M_46 v3_139 H locs ls h hP hS hl => ?_) 4000 M_45 0 _ _ _ h hP hS (lv_sub hl [0, 1, 2, 3] rfl)
    have hD := cwl_D hI (encM cI cZ am M_46)
    try dsimp only at h
    refine lv_aload_n hx hb dX6_acts_224 rfl (lv_at hl 2 rfl) ?_
    refine va_get (D := (dC, dI)) (ci := 6) (v := .ref (am 4)) (C := RX6) (T := TX6) (N := 29) hx hb hts jX6_acts_X6 hown hKz hP 0 mw_0 rfl 5 (by decide) (hts (.fieldLink RX6 19 "LendThreadsModel" "step" "[I") (by decide +kernel)) (fun _ h9 => h9) rfl dX6_acts_225 ?_
    refine lv_iload_n hx hb dX6_acts_228 rfl (lv_at hl 3 rfl) ?_
    refine lv_dup2_11 hx hb dX6_acts_229 rfl rfl ?_
    obtain ⟨g_58, h⟩ := gd_some h
    refine va_iald hx hb hKz hP 4 0 (mw_arr (k := 4) (by decide) (by decide) (by decide)) rfl (inb_in g_58) dX6_acts_230 ?_
    refine lv_iconst (v := 1) hx hb dX6_acts_231 (by decide) ?_
    refine lv_iadd hx hb dX6_acts_232 ?_
    obtain ⟨g_59, h⟩ := gd_some h
    refine va_iast hx hb hKz hP hD hS 4 0 (mw_arr (k := 4) (by decide) (by decide) (by decide)) rfl (inb_in g_59) dX6_acts_233 (fun H locs hP _ hS => ?_)
    have hP : va_P (dC, dI) vwCl (mW cI cZ am (up2 M_46 4 p1.toNatClampNeg ((M_46 4 p1.toNatClampNeg) + 1))) H := by show va_P (dC, dI) vwCl (cwl 24 am (encM cI cZ am (up2 M_46 4 p1.toNatClampNeg ((M_46 4 p1.toNatClampNeg) + 1)))) H; rw [← em_arr (k := 4) (by decide) (by decide), ← cwl_set (by decide)]; exact hP
    have hD := cwl_D hI (encM cI cZ am (up2 M_46 4 p1.toNatClampNeg ((M_46 4 p1.toNatClampNeg) + 1)))
    generalize up2 M_46 4 p1.toNatClampNeg ((M_46 4 p1.toNatClampNeg) + 1) = M_60 at hP hD h
    replace h := bm_e h
    try dsimp only at h
    refine lv_aload_n hx hb dX6_acts_234 rfl (lv_at hl 2 rfl) ?_
    refine va_get (D := (dC, dI)) (ci := 6) (v := .ref (am 5)) (C := RX6) (T := TX6) (N := 29) hx hb hts jX6_acts_X6 hown hKz hP 0 mw_0 rfl 6 (by decide) (hts (.fieldLink RX6 22 "LendThreadsModel" "got" "[I") (by decide +kernel)) (fun _ h9 => h9) rfl dX6_acts_235 ?_
    refine lv_iload_n hx hb dX6_acts_238 rfl (lv_at hl 3 rfl) ?_
    refine lv_iconst (v := 0) hx hb dX6_acts_239 (by decide) ?_
    obtain ⟨g_61, h⟩ := gd_some h
    refine va_iast hx hb hKz hP hD hS 5 0 (mw_arr (k := 5) (by decide) (by decide) (by decide)) rfl (inb_in g_61) dX6_acts_240 (fun H locs hP _ hS => ?_)
    have hP : va_P (dC, dI) vwCl (mW cI cZ am (up2 M_60 5 p1.toNatClampNeg 0)) H := by show va_P (dC, dI) vwCl (cwl 24 am (encM cI cZ am (up2 M_60 5 p1.toNatClampNeg 0))) H; rw [← em_arr (k := 5) (by decide) (by decide), ← cwl_set (by decide)]; exact hP
    have hD := cwl_D hI (encM cI cZ am (up2 M_60 5 p1.toNatClampNeg 0))
    generalize up2 M_60 5 p1.toNatClampNeg 0 = M_62 at hP hD h
    replace h := bm_e h
    try dsimp only at h
    refine lv_aload_n hx hb dX6_acts_241 rfl (lv_at hl 2 rfl) ?_
    refine va_get (D := (dC, dI)) (ci := 6) (v := .ref (am 4)) (C := RX6) (T := TX6) (N := 29) hx hb hts jX6_acts_X6 hown hKz hP 0 mw_0 rfl 5 (by decide) (hts (.fieldLink RX6 19 "LendThreadsModel" "step" "[I") (by decide +kernel)) (fun _ h9 => h9) rfl dX6_acts_242 ?_
    refine lv_iload_n hx hb dX6_acts_245 rfl (lv_at hl 3 rfl) ?_
    obtain ⟨g_63, h⟩ := gd_some h
    refine va_iald hx hb hKz hP 4 0 (mw_arr (k := 4) (by decide) (by decide) (by decide)) rfl (inb_in g_63) dX6_acts_246 ?_
    refine lv_aload_n hx hb dX6_acts_247 rfl (lv_at hl 2 rfl) ?_
    refine va_get (D := (dC, dI)) (ci := 6) (v := .ref (am 1)) (C := RX6) (T := TX6) (N := 29) hx hb hts jX6_acts_X6 hown hKz hP 0 mw_0 rfl 2 (by decide) (hts (.fieldLink RX6 7 "LendThreadsModel" "steps" "[I") (by decide +kernel)) (fun _ h9 => h9) rfl dX6_acts_248 ?_
    refine lv_iload_n hx hb dX6_acts_251 rfl (lv_at hl 3 rfl) ?_
    obtain ⟨g_64, h⟩ := gd_some h
    refine va_iald hx hb hKz hP 1 0 (mw_arr (k := 1) (by decide) (by decide) (by decide)) rfl (inb_in g_64) dX6_acts_252 ?_
    refine lv_icmp_ne (tgt := 268) hx hb dX6_acts_253 (by decide) (fun c_65 => ?_) (fun c_65 => ?_)
    · rw [if_neg c_65] at h
      replace h := Option.some.inj h
      subst h
      exact W.vret hx hb hr (fun t ht hW => ⟨⟨_, rfl, rfl, (show va_P (dC, dI) vwCl (mW cI cZ am M_62) t.heap by rw [ht]; exact hP)⟩, hS.F ht⟩) hS.2.2 dX6_acts_268
    · rw [if_pos c_65] at h
      refine lv_aload_n hx hb dX6_acts_256 rfl (lv_at hl 2 rfl) ?_
      refine lv_iload_n hx hb dX6_acts_257 rfl (lv_at hl 3 rfl) ?_
      obtain ⟨q_66, hq_66, h⟩ := bi_some h
      refine va_callv (va_runV (As := [.int p1]) (rest := []) ⟨hx, hb, hml, hown, hts⟩ (k_X6_frees l dC dI cI cZ am hI M_62 p1 q_66 hq_66) (cwV 1 hts gX6_acts_X6_frees rfl rfl rfl (by decide +kernel) ⟨Nat.le_of_ble_eq_true rfl, Nat.le_of_ble_eq_true rfl⟩) (gm_preV hKK hKz hP (va_recv hKz hP (ci := 6) (q0 := 0) rfl mw_0)) rfl rfl hl.1 rfl (lv_room (Nat.le_of_ble_eq_true rfl)) dX6_acts_258 ⟨Nat.zero_le _, Nat.zero_le _⟩) hS (fun q _ h => h) (fun q h => h) (fun M_68 t H locs ht hvm hw hP hz1 hk1 hS => ?_)
      replace hw := hw.symm
      subst hw
      rw [ht] at hP
      have hD := cwl_D hI (encM cI cZ am q_66)
      refine lv_aload_n hx hb dX6_acts_261 rfl (lv_at hl 2 rfl) ?_
      refine va_get (D := (dC, dI)) (ci := 6) (v := .ref (am 3)) (C := RX6) (T := TX6) (N := 29) hx hb hts jX6_acts_X6 hown hKz hP 0 mw_0 rfl 4 (by decide) (hts (.fieldLink RX6 16 "LendThreadsModel" "state" "[I") (by decide +kernel)) (fun _ h9 => h9) rfl dX6_acts_262 ?_
      refine lv_iload_n hx hb dX6_acts_265 rfl (lv_at hl 3 rfl) ?_
      refine lv_iconst (v := 1) hx hb dX6_acts_266 (by decide) ?_
      obtain ⟨g_69, h⟩ := gd_some h
      refine va_iast hx hb hKz hP hD hS 3 0 (mw_arr (k := 3) (by decide) (by decide) (by decide)) rfl (inb_in g_69) dX6_acts_267 (fun H locs hP _ hS => ?_)
      have hP : va_P (dC, dI) vwCl (mW cI cZ am (up2 q_66 3 p1.toNatClampNeg 1)) H := by show va_P (dC, dI) vwCl (cwl 24 am (encM cI cZ am (up2 q_66 3 p1.toNatClampNeg 1))) H; rw [← em_arr (k := 3) (by decide) (by decide), ← cwl_set (by decide)]; exact hP
      have hD := cwl_D hI (encM cI cZ am (up2 q_66 3 p1.toNatClampNeg 1))
      generalize up2 q_66 3 p1.toNatClampNeg 1 = M_70 at hP hD h
      replace h := bm_e h
      try dsimp only at h
      replace h := Option.some.inj h
      subst h
      exact W.vret hx hb hr (fun t ht hW => ⟨⟨_, rfl, rfl, (show va_P (dC, dI) vwCl (mW cI cZ am M_70) t.heap by rw [ht]; exact hP)⟩, hS.F ht⟩) hS.2.2 dX6_acts_268
theorem jX6_does_X6 : ∀ w ∈ u_ws RX6 TX6 29, w ∈ wsX6_does := by decide +kernel
def F_X6_does (M : Mem) (p1 : Int32) : Option (Int32 × Mem) :=
  bi (F_X6_isWork M p1) fun q_1 => (if q_1 = 0 then some (0, M) else gd (inb p1 (lm 3)) <| (if (M 3 p1.toNatClampNeg) = 0 then gd (inb p1 (lm 7)) <| bm (up2 M 7 p1.toNatClampNeg 1) fun M_7 => gd (inb p1 (lm 4)) <| gd (inb p1 (lm 5)) <| gd (inb ((10 * p1) + (M_7 4 p1.toNatClampNeg)) (lm 12)) <| (if (M_7 12 ((10 * p1) + (M_7 4 p1.toNatClampNeg)).toNatClampNeg) ≤ (M_7 5 p1.toNatClampNeg) then gd (inb p1 (lm 2)) <| gd (inb p1 (lm 4)) <| (if (M_7 2 p1.toNatClampNeg) = (M_7 4 p1.toNatClampNeg) then bi (F_X6_undo M_7 p1 2) fun q_21 => gd (inb p1 (lm 6)) <| bm (up2 q_21 6 p1.toNatClampNeg 6) fun M_25 => gd (inb p1 (lm 6)) <| some ((M_25 6 p1.toNatClampNeg), M_25) else bi (F_X6_acts M_7 p1) fun q_15 => gd (inb p1 (lm 6)) <| bm (up2 q_15 6 p1.toNatClampNeg 2) fun M_19 => gd (inb p1 (lm 6)) <| some ((M_19 6 p1.toNatClampNeg), M_19)) else gd (inb p1 (lm 5)) <| gd (inb ((4 * ((10 * p1) + (M_7 4 p1.toNatClampNeg))) + (M_7 5 p1.toNatClampNeg)) (lm 13)) <| (if 100 ≤ (M_7 13 ((4 * ((10 * p1) + (M_7 4 p1.toNatClampNeg))) + (M_7 5 p1.toNatClampNeg)).toNatClampNeg) then bi (F_X6_hears M_7 p1 ((M_7 13 ((4 * ((10 * p1) + (M_7 4 p1.toNatClampNeg))) + (M_7 5 p1.toNatClampNeg)).toNatClampNeg) - 100)) fun q_30 => gd (inb p1 (lm 6)) <| bm (up2 q_30.2 6 p1.toNatClampNeg q_30.1) fun M_34 => gd (inb p1 (lm 6)) <| some ((M_34 6 p1.toNatClampNeg), M_34) else bi (F_X6_takes M_7 p1 (M_7 13 ((4 * ((10 * p1) + (M_7 4 p1.toNatClampNeg))) + (M_7 5 p1.toNatClampNeg)).toNatClampNeg)) fun q_36 => gd (inb p1 (lm 6)) <| bm (up2 q_36.2 6 p1.toNatClampNeg q_36.1) fun M_40 => gd (inb p1 (lm 6)) <| some ((M_40 6 p1.toNatClampNeg), M_40))) else some (0, M)))
set_option maxHeartbeats 4000000 in
set_option maxRecDepth 100000 in
theorem k_X6_does (l : Launch) (dC : Nat → ClassId) (dI : Nat → Nat → Nat) (cI cZ : ClassId) (am : Nat → Nat) (hI : Inj 24 am) (M : Mem) (p1 : Int32) (q : Int32 × Mem) (h : F_X6_does M p1 = some q) : Met l yX6_does wsX6_does ({ frames := 2, cells := 0, slots := 0, locals := 47 }) (gm dC dI cI cZ am M [.ref (am 0), .int p1]) (va_Qi (fun x M' => x = q.1 ∧ M' = q.2) (fun M' t => va_P (dC, dI) vwCl (mW cI cZ am M') t.heap) (Ac 24 am)) 0 0 (Ac 24 am) := by
  refine Met.ofW (cc := cX6_does) (maxL := 4) (ret := (some .int)) (by decide) rfl ?_
  intro p e s m args below meth c s₁ B hml hv
  obtain ⟨rfl, hP, hKK, hKz⟩ := hv
  have hx := B.exec
  have hb := B.bytes
  have hr := B.returns
  have hts := atoms_spec (ws := wsX6_does) B.pre
  have hown : s.vm.findClass RX6 = some m.cls := findClass_of_methodNamed B.named
  have hlocks := B.notSynchronized
  have hD := cwl_D hI (encM cI cZ am M)
  have hS : va_S (Ac 24 am) s.heap s.heap [] := va_S.rf
  have hl := lv_entry ([.ref (am 0), .int p1]) (n := 4) (Nat.le_of_ble_eq_true rfl)
  rw [lg_entry_eq]
  generalize (lg_sl ([.ref (am 0), .int p1]) ++ List.replicate (4 - (lg_sl ([.ref (am 0), .int p1])).length) Slot.unset).toArray = ls at hl ⊢
  have hl : lv_has ls 4 [(0, .ref (am 0)), (1, .int p1)] := hl
  unfold F_X6_does at h
  refine lv_aload_n hx hb dX6_does_0 rfl (lv_at hl 0 rfl) ?_
  refine lv_iload_n hx hb dX6_does_1 rfl (lv_at hl 1 rfl) ?_
  obtain ⟨q_1, hq_1, h⟩ := bi_some h
  refine vp_callSi (va_Run.run (va_runV (As := [.int p1]) (rest := []) ⟨hx, hb, hml, hown, hts⟩ (k_X6_isWork l dC dI cI cZ am hI M p1 q_1 hq_1) (cwV 1 hts gX6_does_X6_isWork rfl rfl rfl (by decide +kernel) ⟨Nat.le_of_ble_eq_true rfl, Nat.le_of_ble_eq_true rfl⟩) (gm_preV hKK hKz hP (va_recv hKz hP (ci := 6) (q0 := 0) rfl mw_0)) rfl rfl hl.1 rfl (lv_room (Nat.le_of_ble_eq_true rfl)) dX6_does_2 ⟨Nat.zero_le _, Nat.zero_le _⟩)) (fun r_2 hr_2 => ?_)
  replace hr_2 := hr_2.symm
  subst hr_2
  refine lv_if_eq (tgt := 17) hx hb dX6_does_5 (by decide) (fun c_3 => ?_) (fun c_3 => ?_)
  · rw [if_pos c_3] at h
    refine lv_iconst (v := 0) hx hb dX6_does_17 (by decide) ?_
    replace h := Option.some.inj h
    subst h
    exact W.iret (v := 0) hx hb hr (fun t ht hW => ⟨⟨_, _, rfl, ⟨rfl, rfl⟩, (show va_P (dC, dI) vwCl (mW cI cZ am M) t.heap by rw [ht]; exact hP)⟩, hS.F ht⟩) hS.2.2 dX6_does_18
  · rw [if_neg c_3] at h
    refine lv_aload_n hx hb dX6_does_8 rfl (lv_at hl 0 rfl) ?_
    refine va_get (D := (dC, dI)) (ci := 6) (v := .ref (am 3)) (C := RX6) (T := TX6) (N := 29) hx hb hts jX6_does_X6 hown hKz hP 0 mw_0 rfl 4 (by decide) (hts (.fieldLink RX6 16 "LendThreadsModel" "state" "[I") (by decide +kernel)) (fun _ h9 => h9) rfl dX6_does_9 ?_
    refine lv_iload_n hx hb dX6_does_12 rfl (lv_at hl 1 rfl) ?_
    obtain ⟨g_4, h⟩ := gd_some h
    refine va_iald hx hb hKz hP 3 0 (mw_arr (k := 3) (by decide) (by decide) (by decide)) rfl (inb_in g_4) dX6_does_13 ?_
    refine lv_if_eq (tgt := 19) hx hb dX6_does_14 (by decide) (fun c_5 => ?_) (fun c_5 => ?_)
    · rw [if_pos c_5] at h
      refine lv_aload_n hx hb dX6_does_19 rfl (lv_at hl 0 rfl) ?_
      refine va_get (D := (dC, dI)) (ci := 6) (v := .ref (am 7)) (C := RX6) (T := TX6) (N := 29) hx hb hts jX6_does_X6 hown hKz hP 0 mw_0 rfl 8 (by decide) (hts (.fieldLink RX6 28 "LendThreadsModel" "begun" "[Z") (by decide +kernel)) (fun _ h9 => h9) rfl dX6_does_20 ?_
      refine lv_iload_n hx hb dX6_does_23 rfl (lv_at hl 1 rfl) ?_
      refine lv_iconst (v := 1) hx hb dX6_does_24 (by decide) ?_
      obtain ⟨g_6, h⟩ := gd_some h
      refine va_zast hx hb hKz hP hD hS 7 1 mw_z rfl (inb_in g_6) dX6_does_25 (fun H locs hP _ hS => ?_)
      have hP : va_P (dC, dI) vwCl (mW cI cZ am (up2 M 7 p1.toNatClampNeg 1)) H := by show va_P (dC, dI) vwCl (cwl 24 am (encM cI cZ am (up2 M 7 p1.toNatClampNeg 1))) H; rw [← em_z, ← cwl_set (by decide)]; exact hP
      have hD := cwl_D hI (encM cI cZ am (up2 M 7 p1.toNatClampNeg 1))
      generalize up2 M 7 p1.toNatClampNeg 1 = M_7 at hP hD h
      replace h := bm_e h
      try dsimp only at h
      refine lv_bipush (v := 10) hx hb dX6_does_26 (by decide) ?_
      refine lv_iload_n hx hb dX6_does_28 rfl (lv_at hl 1 rfl) ?_
      refine lv_imul hx hb dX6_does_29 ?_
      refine lv_aload_n hx hb dX6_does_30 rfl (lv_at hl 0 rfl) ?_
      refine va_get (D := (dC, dI)) (ci := 6) (v := .ref (am 4)) (C := RX6) (T := TX6) (N := 29) hx hb hts jX6_does_X6 hown hKz hP 0 mw_0 rfl 5 (by decide) (hts (.fieldLink RX6 19 "LendThreadsModel" "step" "[I") (by decide +kernel)) (fun _ h9 => h9) rfl dX6_does_31 ?_
      refine lv_iload_n hx hb dX6_does_34 rfl (lv_at hl 1 rfl) ?_
      obtain ⟨g_8, h⟩ := gd_some h
      refine va_iald hx hb hKz hP 4 0 (mw_arr (k := 4) (by decide) (by decide) (by decide)) rfl (inb_in g_8) dX6_does_35 ?_
      refine lv_iadd hx hb dX6_does_36 ?_
      refine lv_istore_n (lv' := [(2, .int ((10 * p1) + (M_7 4 p1.toNatClampNeg))), (0, .ref (am 0)), (1, .int p1)]) hx hb dX6_does_37 rfl hl (by decide) rfl (fun ls hl => ?_)
      refine lv_aload_n hx hb dX6_does_38 rfl (lv_at hl 1 rfl) ?_
      refine va_get (D := (dC, dI)) (ci := 6) (v := .ref (am 5)) (C := RX6) (T := TX6) (N := 29) hx hb hts jX6_does_X6 hown hKz hP 0 mw_0 rfl 6 (by decide) (hts (.fieldLink RX6 22 "LendThreadsModel" "got" "[I") (by decide +kernel)) (fun _ h9 => h9) rfl dX6_does_39 ?_
      refine lv_iload_n hx hb dX6_does_42 rfl (lv_at hl 2 rfl) ?_
      obtain ⟨g_9, h⟩ := gd_some h
      refine va_iald hx hb hKz hP 5 0 (mw_arr (k := 5) (by decide) (by decide) (by decide)) rfl (inb_in g_9) dX6_does_43 ?_
      refine lv_aload_n hx hb dX6_does_44 rfl (lv_at hl 1 rfl) ?_
      refine va_get (D := (dC, dI)) (ci := 6) (v := .ref (am 12)) (C := RX6) (T := TX6) (N := 29) hx hb hts jX6_does_X6 hown hKz hP 0 mw_0 rfl 14 (by decide) (hts (.fieldLink RX6 44 "LendThreadsModel" "wantCount" "[I") (by decide +kernel)) (fun _ h9 => h9) rfl dX6_does_45 ?_
      refine lv_iload_n hx hb dX6_does_48 rfl (lv_at hl 0 rfl) ?_
      obtain ⟨g_10, h⟩ := gd_some h
      refine va_iald hx hb hKz hP 12 0 (mw_arr (k := 12) (by decide) (by decide) (by decide)) rfl (inb_in g_10) dX6_does_49 ?_
      refine lv_icmp_ge (tgt := 102) hx hb dX6_does_50 (by decide) (fun c_11 => ?_) (fun c_11 => ?_)
      · rw [if_pos c_11] at h
        refine lv_aload_n hx hb dX6_does_102 rfl (lv_at hl 1 rfl) ?_
        refine va_get (D := (dC, dI)) (ci := 6) (v := .ref (am 2)) (C := RX6) (T := TX6) (N := 29) hx hb hts jX6_does_X6 hown hKz hP 0 mw_0 rfl 3 (by decide) (hts (.fieldLink RX6 13 "LendThreadsModel" "failsAt" "[I") (by decide +kernel)) (fun _ h9 => h9) rfl dX6_does_103 ?_
        refine lv_iload_n hx hb dX6_does_106 rfl (lv_at hl 2 rfl) ?_
        obtain ⟨g_12, h⟩ := gd_some h
        refine va_iald hx hb hKz hP 2 0 (mw_arr (k := 2) (by decide) (by decide) (by decide)) rfl (inb_in g_12) dX6_does_107 ?_
        refine lv_aload_n hx hb dX6_does_108 rfl (lv_at hl 1 rfl) ?_
        refine va_get (D := (dC, dI)) (ci := 6) (v := .ref (am 4)) (C := RX6) (T := TX6) (N := 29) hx hb hts jX6_does_X6 hown hKz hP 0 mw_0 rfl 5 (by decide) (hts (.fieldLink RX6 19 "LendThreadsModel" "step" "[I") (by decide +kernel)) (fun _ h9 => h9) rfl dX6_does_109 ?_
        refine lv_iload_n hx hb dX6_does_112 rfl (lv_at hl 2 rfl) ?_
        obtain ⟨g_13, h⟩ := gd_some h
        refine va_iald hx hb hKz hP 4 0 (mw_arr (k := 4) (by decide) (by decide) (by decide)) rfl (inb_in g_13) dX6_does_113 ?_
        refine lv_icmp_ne (tgt := 134) hx hb dX6_does_114 (by decide) (fun c_14 => ?_) (fun c_14 => ?_)
        · rw [if_neg c_14] at h
          refine lv_aload_n hx hb dX6_does_134 rfl (lv_at hl 1 rfl) ?_
          refine lv_iload_n hx hb dX6_does_135 rfl (lv_at hl 2 rfl) ?_
          obtain ⟨q_15, hq_15, h⟩ := bi_some h
          refine va_callv (va_runV (As := [.int p1]) (rest := []) ⟨hx, hb, hml, hown, hts⟩ (k_X6_acts l dC dI cI cZ am hI M_7 p1 q_15 hq_15) (cwV 1 hts gX6_does_X6_acts rfl rfl rfl (by decide +kernel) ⟨Nat.le_of_ble_eq_true rfl, Nat.le_of_ble_eq_true rfl⟩) (gm_preV hKK hKz hP (va_recv hKz hP (ci := 6) (q0 := 0) rfl mw_0)) rfl rfl hl.1 rfl (lv_room (Nat.le_of_ble_eq_true rfl)) dX6_does_136 ⟨Nat.zero_le _, Nat.zero_le _⟩) hS (fun q _ h => h) (fun q h => h) (fun M_17 t H locs ht hvm hw hP hz1 hk1 hS => ?_)
          replace hw := hw.symm
          subst hw
          rw [ht] at hP
          have hD := cwl_D hI (encM cI cZ am q_15)
          refine lv_aload_n hx hb dX6_does_139 rfl (lv_at hl 1 rfl) ?_
          refine va_get (D := (dC, dI)) (ci := 6) (v := .ref (am 6)) (C := RX6) (T := TX6) (N := 29) hx hb hts jX6_does_X6 hown hKz hP 0 mw_0 rfl 7 (by decide) (hts (.fieldLink RX6 25 "LendThreadsModel" "latest" "[I") (by decide +kernel)) (fun _ h9 => h9) rfl dX6_does_140 ?_
          refine lv_iload_n hx hb dX6_does_143 rfl (lv_at hl 2 rfl) ?_
          refine lv_iconst (v := 2) hx hb dX6_does_144 (by decide) ?_
          obtain ⟨g_18, h⟩ := gd_some h
          refine va_iast hx hb hKz hP hD hS 6 0 (mw_arr (k := 6) (by decide) (by decide) (by decide)) rfl (inb_in g_18) dX6_does_145 (fun H locs hP _ hS => ?_)
          have hP : va_P (dC, dI) vwCl (mW cI cZ am (up2 q_15 6 p1.toNatClampNeg 2)) H := by show va_P (dC, dI) vwCl (cwl 24 am (encM cI cZ am (up2 q_15 6 p1.toNatClampNeg 2))) H; rw [← em_arr (k := 6) (by decide) (by decide), ← cwl_set (by decide)]; exact hP
          have hD := cwl_D hI (encM cI cZ am (up2 q_15 6 p1.toNatClampNeg 2))
          generalize up2 q_15 6 p1.toNatClampNeg 2 = M_19 at hP hD h
          replace h := bm_e h
          try dsimp only at h
          refine lv_aload_n hx hb dX6_does_146 rfl (lv_at hl 1 rfl) ?_
          refine va_get (D := (dC, dI)) (ci := 6) (v := .ref (am 6)) (C := RX6) (T := TX6) (N := 29) hx hb hts jX6_does_X6 hown hKz hP 0 mw_0 rfl 7 (by decide) (hts (.fieldLink RX6 25 "LendThreadsModel" "latest" "[I") (by decide +kernel)) (fun _ h9 => h9) rfl dX6_does_147 ?_
          refine lv_iload_n hx hb dX6_does_150 rfl (lv_at hl 2 rfl) ?_
          obtain ⟨g_20, h⟩ := gd_some h
          refine va_iald hx hb hKz hP 6 0 (mw_arr (k := 6) (by decide) (by decide) (by decide)) rfl (inb_in g_20) dX6_does_151 ?_
          replace h := Option.some.inj h
          subst h
          exact W.iret (v := (M_19 6 p1.toNatClampNeg)) hx hb hr (fun t ht hW => ⟨⟨_, _, rfl, ⟨rfl, rfl⟩, (show va_P (dC, dI) vwCl (mW cI cZ am M_19) t.heap by rw [ht]; exact hP)⟩, hS.F ht⟩) hS.2.2 dX6_does_152
        · rw [if_pos c_14] at h
          refine lv_aload_n hx hb dX6_does_117 rfl (lv_at hl 1 rfl) ?_
          refine lv_iload_n hx hb dX6_does_118 rfl (lv_at hl 2 rfl) ?_
          refine lv_iconst (v := 2) hx hb dX6_does_119 (by decide) ?_
          obtain ⟨q_21, hq_21, h⟩ := bi_some h
          refine va_callv (va_runV (As := [.int p1, .int 2]) (rest := []) ⟨hx, hb, hml, hown, hts⟩ (k_X6_undo l dC dI cI cZ am hI M_7 p1 2 q_21 hq_21) (cwV 2 hts gX6_does_X6_undo rfl rfl rfl (by decide +kernel) ⟨Nat.le_of_ble_eq_true rfl, Nat.le_of_ble_eq_true rfl⟩) (gm_preV hKK hKz hP (va_recv hKz hP (ci := 6) (q0 := 0) rfl mw_0)) rfl rfl hl.1 rfl (lv_room (Nat.le_of_ble_eq_true rfl)) dX6_does_120 ⟨Nat.zero_le _, Nat.zero_le _⟩) hS (fun q _ h => h) (fun q h => h) (fun M_23 t H locs ht hvm hw hP hz1 hk1 hS => ?_)
          replace hw := hw.symm
          subst hw
          rw [ht] at hP
          have hD := cwl_D hI (encM cI cZ am q_21)
          refine lv_aload_n hx hb dX6_does_123 rfl (lv_at hl 1 rfl) ?_
          refine va_get (D := (dC, dI)) (ci := 6) (v := .ref (am 6)) (C := RX6) (T := TX6) (N := 29) hx hb hts jX6_does_X6 hown hKz hP 0 mw_0 rfl 7 (by decide) (hts (.fieldLink RX6 25 "LendThreadsModel" "latest" "[I") (by decide +kernel)) (fun _ h9 => h9) rfl dX6_does_124 ?_
          refine lv_iload_n hx hb dX6_does_127 rfl (lv_at hl 2 rfl) ?_
          refine lv_bipush (v := 6) hx hb dX6_does_128 (by decide) ?_
          obtain ⟨g_24, h⟩ := gd_some h
          refine va_iast hx hb hKz hP hD hS 6 0 (mw_arr (k := 6) (by decide) (by decide) (by decide)) rfl (inb_in g_24) dX6_does_130 (fun H locs hP _ hS => ?_)
          have hP : va_P (dC, dI) vwCl (mW cI cZ am (up2 q_21 6 p1.toNatClampNeg 6)) H := by show va_P (dC, dI) vwCl (cwl 24 am (encM cI cZ am (up2 q_21 6 p1.toNatClampNeg 6))) H; rw [← em_arr (k := 6) (by decide) (by decide), ← cwl_set (by decide)]; exact hP
          have hD := cwl_D hI (encM cI cZ am (up2 q_21 6 p1.toNatClampNeg 6))
          generalize up2 q_21 6 p1.toNatClampNeg 6 = M_25 at hP hD h
          replace h := bm_e h
          try dsimp only at h
          refine lv_goto (tgt := 146) hx hb dX6_does_131 (by decide) ?_
          refine lv_aload_n hx hb dX6_does_146 rfl (lv_at hl 1 rfl) ?_
          refine va_get (D := (dC, dI)) (ci := 6) (v := .ref (am 6)) (C := RX6) (T := TX6) (N := 29) hx hb hts jX6_does_X6 hown hKz hP 0 mw_0 rfl 7 (by decide) (hts (.fieldLink RX6 25 "LendThreadsModel" "latest" "[I") (by decide +kernel)) (fun _ h9 => h9) rfl dX6_does_147 ?_
          refine lv_iload_n hx hb dX6_does_150 rfl (lv_at hl 2 rfl) ?_
          obtain ⟨g_26, h⟩ := gd_some h
          refine va_iald hx hb hKz hP 6 0 (mw_arr (k := 6) (by decide) (by decide) (by decide)) rfl (inb_in g_26) dX6_does_151 ?_
          replace h := Option.some.inj h
          subst h
          exact W.iret (v := (M_25 6 p1.toNatClampNeg)) hx hb hr (fun t ht hW => ⟨⟨_, _, rfl, ⟨rfl, rfl⟩, (show va_P (dC, dI) vwCl (mW cI cZ am M_25) t.heap by rw [ht]; exact hP)⟩, hS.F ht⟩) hS.2.2 dX6_does_152
      · rw [if_neg c_11] at h
        refine lv_aload_n hx hb dX6_does_53 rfl (lv_at hl 1 rfl) ?_
        refine va_get (D := (dC, dI)) (ci := 6) (v := .ref (am 13)) (C := RX6) (T := TX6) (N := 29) hx hb hts jX6_does_X6 hown hKz hP 0 mw_0 rfl 15 (by decide) (hts (.fieldLink RX6 47 "LendThreadsModel" "want" "[I") (by decide +kernel)) (fun _ h9 => h9) rfl dX6_does_54 ?_
        refine lv_iconst (v := 4) hx hb dX6_does_57 (by decide) ?_
        refine lv_iload_n hx hb dX6_does_58 rfl (lv_at hl 0 rfl) ?_
        refine lv_imul hx hb dX6_does_59 ?_
        refine lv_aload_n hx hb dX6_does_60 rfl (lv_at hl 1 rfl) ?_
        refine va_get (D := (dC, dI)) (ci := 6) (v := .ref (am 5)) (C := RX6) (T := TX6) (N := 29) hx hb hts jX6_does_X6 hown hKz hP 0 mw_0 rfl 6 (by decide) (hts (.fieldLink RX6 22 "LendThreadsModel" "got" "[I") (by decide +kernel)) (fun _ h9 => h9) rfl dX6_does_61 ?_
        refine lv_iload_n hx hb dX6_does_64 rfl (lv_at hl 2 rfl) ?_
        obtain ⟨g_27, h⟩ := gd_some h
        refine va_iald hx hb hKz hP 5 0 (mw_arr (k := 5) (by decide) (by decide) (by decide)) rfl (inb_in g_27) dX6_does_65 ?_
        refine lv_iadd hx hb dX6_does_66 ?_
        obtain ⟨g_28, h⟩ := gd_some h
        refine va_iald hx hb hKz hP 13 0 (mw_arr (k := 13) (by decide) (by decide) (by decide)) rfl (inb_in g_28) dX6_does_67 ?_
        refine lv_istore_n (lv' := [(3, .int (M_7 13 ((4 * ((10 * p1) + (M_7 4 p1.toNatClampNeg))) + (M_7 5 p1.toNatClampNeg)).toNatClampNeg)), (2, .int ((10 * p1) + (M_7 4 p1.toNatClampNeg))), (0, .ref (am 0)), (1, .int p1)]) hx hb dX6_does_68 rfl hl (by decide) rfl (fun ls hl => ?_)
        refine lv_aload_n hx hb dX6_does_69 rfl (lv_at hl 2 rfl) ?_
        refine va_get (D := (dC, dI)) (ci := 6) (v := .ref (am 6)) (C := RX6) (T := TX6) (N := 29) hx hb hts jX6_does_X6 hown hKz hP 0 mw_0 rfl 7 (by decide) (hts (.fieldLink RX6 25 "LendThreadsModel" "latest" "[I") (by decide +kernel)) (fun _ h9 => h9) rfl dX6_does_70 ?_
        refine lv_iload_n hx hb dX6_does_73 rfl (lv_at hl 3 rfl) ?_
        refine lv_iload_n hx hb dX6_does_74 rfl (lv_at hl 0 rfl) ?_
        refine lv_bipush (v := 100) hx hb dX6_does_75 (by decide) ?_
        refine lv_icmp_ge (tgt := 89) hx hb dX6_does_77 (by decide) (fun c_29 => ?_) (fun c_29 => ?_)
        · rw [if_pos c_29] at h
          refine lv_aload_n hx hb dX6_does_89 rfl (lv_at hl 2 rfl) ?_
          refine lv_iload_n hx hb dX6_does_90 rfl (lv_at hl 3 rfl) ?_
          refine lv_iload_n hx hb dX6_does_91 rfl (lv_at hl 0 rfl) ?_
          refine lv_bipush (v := 100) hx hb dX6_does_92 (by decide) ?_
          refine lv_isub hx hb dX6_does_94 ?_
          obtain ⟨q_30, hq_30, h⟩ := bi_some h
          refine va_calli (va_runV (As := [.int p1, .int ((M_7 13 ((4 * ((10 * p1) + (M_7 4 p1.toNatClampNeg))) + (M_7 5 p1.toNatClampNeg)).toNatClampNeg) - 100)]) (rest := [.int p1, .ref (am 6)]) ⟨hx, hb, hml, hown, hts⟩ (k_X6_hears l dC dI cI cZ am hI M_7 p1 ((M_7 13 ((4 * ((10 * p1) + (M_7 4 p1.toNatClampNeg))) + (M_7 5 p1.toNatClampNeg)).toNatClampNeg) - 100) q_30 hq_30) (cwV 2 hts gX6_does_X6_hears rfl rfl rfl (by decide +kernel) ⟨Nat.le_of_ble_eq_true rfl, Nat.le_of_ble_eq_true rfl⟩) (gm_preV hKK hKz hP (va_recv hKz hP (ci := 6) (q0 := 0) rfl mw_0)) rfl rfl hl.1 rfl (lv_room (Nat.le_of_ble_eq_true rfl)) dX6_does_95 ⟨Nat.zero_le _, Nat.zero_le _⟩) hS (fun q _ h => h) (fun q h => h) (fun r_31 M_32 t H locs ht hvm hw hP hz1 hk1 hS => ?_)
          obtain ⟨h1, h2⟩ := hw
          subst h1 h2
          rw [ht] at hP
          have hD := cwl_D hI (encM cI cZ am q_30.2)
          obtain ⟨g_33, h⟩ := gd_some h
          refine va_iast hx hb hKz hP hD hS 6 0 (mw_arr (k := 6) (by decide) (by decide) (by decide)) rfl (inb_in g_33) dX6_does_98 (fun H locs hP _ hS => ?_)
          have hP : va_P (dC, dI) vwCl (mW cI cZ am (up2 q_30.2 6 p1.toNatClampNeg q_30.1)) H := by show va_P (dC, dI) vwCl (cwl 24 am (encM cI cZ am (up2 q_30.2 6 p1.toNatClampNeg q_30.1))) H; rw [← em_arr (k := 6) (by decide) (by decide), ← cwl_set (by decide)]; exact hP
          have hD := cwl_D hI (encM cI cZ am (up2 q_30.2 6 p1.toNatClampNeg q_30.1))
          generalize up2 q_30.2 6 p1.toNatClampNeg q_30.1 = M_34 at hP hD h
          replace h := bm_e h
          try dsimp only at h
          refine lv_goto (tgt := 146) hx hb dX6_does_99 (by decide) ?_
          refine lv_aload_n hx hb dX6_does_146 rfl (lv_at hl 2 rfl) ?_
          refine va_get (D := (dC, dI)) (ci := 6) (v := .ref (am 6)) (C := RX6) (T := TX6) (N := 29) hx hb hts jX6_does_X6 hown hKz hP 0 mw_0 rfl 7 (by decide) (hts (.fieldLink RX6 25 "LendThreadsModel" "latest" "[I") (by decide +kernel)) (fun _ h9 => h9) rfl dX6_does_147 ?_
          refine lv_iload_n hx hb dX6_does_150 rfl (lv_at hl 3 rfl) ?_
          obtain ⟨g_35, h⟩ := gd_some h
          refine va_iald hx hb hKz hP 6 0 (mw_arr (k := 6) (by decide) (by decide) (by decide)) rfl (inb_in g_35) dX6_does_151 ?_
          replace h := Option.some.inj h
          subst h
          exact W.iret (v := (M_34 6 p1.toNatClampNeg)) hx hb hr (fun t ht hW => ⟨⟨_, _, rfl, ⟨rfl, rfl⟩, (show va_P (dC, dI) vwCl (mW cI cZ am M_34) t.heap by rw [ht]; exact hP)⟩, hS.F ht⟩) hS.2.2 dX6_does_152
        · rw [if_neg c_29] at h
          refine lv_aload_n hx hb dX6_does_80 rfl (lv_at hl 2 rfl) ?_
          refine lv_iload_n hx hb dX6_does_81 rfl (lv_at hl 3 rfl) ?_
          refine lv_iload_n hx hb dX6_does_82 rfl (lv_at hl 0 rfl) ?_
          obtain ⟨q_36, hq_36, h⟩ := bi_some h
          refine va_calli (va_runV (As := [.int p1, .int (M_7 13 ((4 * ((10 * p1) + (M_7 4 p1.toNatClampNeg))) + (M_7 5 p1.toNatClampNeg)).toNatClampNeg)]) (rest := [.int p1, .ref (am 6)]) ⟨hx, hb, hml, hown, hts⟩ (k_X6_takes l dC dI cI cZ am hI M_7 p1 (M_7 13 ((4 * ((10 * p1) + (M_7 4 p1.toNatClampNeg))) + (M_7 5 p1.toNatClampNeg)).toNatClampNeg) q_36 hq_36) (cwV 2 hts gX6_does_X6_takes rfl rfl rfl (by decide +kernel) ⟨Nat.le_of_ble_eq_true rfl, Nat.le_of_ble_eq_true rfl⟩) (gm_preV hKK hKz hP (va_recv hKz hP (ci := 6) (q0 := 0) rfl mw_0)) rfl rfl hl.1 rfl (lv_room (Nat.le_of_ble_eq_true rfl)) dX6_does_83 ⟨Nat.zero_le _, Nat.zero_le _⟩) hS (fun q _ h => h) (fun q h => h) (fun r_37 M_38 t H locs ht hvm hw hP hz1 hk1 hS => ?_)
          obtain ⟨h1, h2⟩ := hw
          subst h1 h2
          rw [ht] at hP
          have hD := cwl_D hI (encM cI cZ am q_36.2)
          refine lv_goto (tgt := 98) hx hb dX6_does_86 (by decide) ?_
          obtain ⟨g_39, h⟩ := gd_some h
          refine va_iast hx hb hKz hP hD hS 6 0 (mw_arr (k := 6) (by decide) (by decide) (by decide)) rfl (inb_in g_39) dX6_does_98 (fun H locs hP _ hS => ?_)
          have hP : va_P (dC, dI) vwCl (mW cI cZ am (up2 q_36.2 6 p1.toNatClampNeg q_36.1)) H := by show va_P (dC, dI) vwCl (cwl 24 am (encM cI cZ am (up2 q_36.2 6 p1.toNatClampNeg q_36.1))) H; rw [← em_arr (k := 6) (by decide) (by decide), ← cwl_set (by decide)]; exact hP
          have hD := cwl_D hI (encM cI cZ am (up2 q_36.2 6 p1.toNatClampNeg q_36.1))
          generalize up2 q_36.2 6 p1.toNatClampNeg q_36.1 = M_40 at hP hD h
          replace h := bm_e h
          try dsimp only at h
          refine lv_goto (tgt := 146) hx hb dX6_does_99 (by decide) ?_
          refine lv_aload_n hx hb dX6_does_146 rfl (lv_at hl 2 rfl) ?_
          refine va_get (D := (dC, dI)) (ci := 6) (v := .ref (am 6)) (C := RX6) (T := TX6) (N := 29) hx hb hts jX6_does_X6 hown hKz hP 0 mw_0 rfl 7 (by decide) (hts (.fieldLink RX6 25 "LendThreadsModel" "latest" "[I") (by decide +kernel)) (fun _ h9 => h9) rfl dX6_does_147 ?_
          refine lv_iload_n hx hb dX6_does_150 rfl (lv_at hl 3 rfl) ?_
          obtain ⟨g_41, h⟩ := gd_some h
          refine va_iald hx hb hKz hP 6 0 (mw_arr (k := 6) (by decide) (by decide) (by decide)) rfl (inb_in g_41) dX6_does_151 ?_
          replace h := Option.some.inj h
          subst h
          exact W.iret (v := (M_40 6 p1.toNatClampNeg)) hx hb hr (fun t ht hW => ⟨⟨_, _, rfl, ⟨rfl, rfl⟩, (show va_P (dC, dI) vwCl (mW cI cZ am M_40) t.heap by rw [ht]; exact hP)⟩, hS.F ht⟩) hS.2.2 dX6_does_152
    · rw [if_neg c_5] at h
      refine lv_iconst (v := 0) hx hb dX6_does_17 (by decide) ?_
      replace h := Option.some.inj h
      subst h
      exact W.iret (v := 0) hx hb hr (fun t ht hW => ⟨⟨_, _, rfl, ⟨rfl, rfl⟩, (show va_P (dC, dI) vwCl (mW cI cZ am M) t.heap by rw [ht]; exact hP)⟩, hS.F ht⟩) hS.2.2 dX6_does_18
theorem jX6_waitsOn_X6 : ∀ w ∈ u_ws RX6 TX6 29, w ∈ wsX6_waitsOn := by decide +kernel
def F_X6_waitsOn (M : Mem) (p1 : Int32) : Option (Int32) :=
  gd (inb p1 (lm 10)) <| (if (M 10 p1.toNatClampNeg) = 0 then some (-1) else gd (inb p1 (lm 10)) <| gd (inb ((M 10 p1.toNatClampNeg) - 1) (lm 16)) <| some ((M 16 ((M 10 p1.toNatClampNeg) - 1).toNatClampNeg) - 1))
set_option maxHeartbeats 4000000 in
set_option maxRecDepth 100000 in
theorem k_X6_waitsOn (l : Launch) (dC : Nat → ClassId) (dI : Nat → Nat → Nat) (cI cZ : ClassId) (am : Nat → Nat) (hI : Inj 24 am) (M : Mem) (p1 : Int32) (q : Int32) (h : F_X6_waitsOn M p1 = some q) : Met l yX6_waitsOn wsX6_waitsOn ({ frames := 0, cells := 0, slots := 0, locals := 0 }) (gm dC dI cI cZ am M [.ref (am 0), .int p1]) (vp_Si (fun x => x = q)) 0 0 (fun _ => False) := by
  refine Met.ofW (cc := cX6_waitsOn) (maxL := 2) (ret := (some .int)) (by decide) rfl ?_
  intro p e s m args below meth c s₁ B hml hv
  obtain ⟨rfl, hP, hKK, hKz⟩ := hv
  have hx := B.exec
  have hb := B.bytes
  have hr := B.returns
  have hts := atoms_spec (ws := wsX6_waitsOn) B.pre
  have hown : s.vm.findClass RX6 = some m.cls := findClass_of_methodNamed B.named
  have hlocks := B.notSynchronized
  have hl := lv_entry ([.ref (am 0), .int p1]) (n := 2) (Nat.le_of_ble_eq_true rfl)
  rw [lg_entry_eq]
  generalize (lg_sl ([.ref (am 0), .int p1]) ++ List.replicate (2 - (lg_sl ([.ref (am 0), .int p1])).length) Slot.unset).toArray = ls at hl ⊢
  have hl : lv_has ls 2 [(0, .ref (am 0)), (1, .int p1)] := hl
  unfold F_X6_waitsOn at h
  refine lv_aload_n hx hb dX6_waitsOn_0 rfl (lv_at hl 0 rfl) ?_
  refine va_get (D := (dC, dI)) (ci := 6) (v := .ref (am 10)) (C := RX6) (T := TX6) (N := 29) hx hb hts jX6_waitsOn_X6 hown hKz hP 0 mw_0 rfl 11 (by decide) (hts (.fieldLink RX6 38 "LendThreadsModel" "waitsFor" "[I") (by decide +kernel)) (fun _ h9 => h9) rfl dX6_waitsOn_1 ?_
  refine lv_iload_n hx hb dX6_waitsOn_4 rfl (lv_at hl 1 rfl) ?_
  obtain ⟨g_1, h⟩ := gd_some h
  refine va_iald hx hb hKz hP 10 0 (mw_arr (k := 10) (by decide) (by decide) (by decide)) rfl (inb_in g_1) dX6_waitsOn_5 ?_
  refine lv_if_ne (tgt := 13) hx hb dX6_waitsOn_6 (by decide) (fun c_2 => ?_) (fun c_2 => ?_)
  · rw [if_neg c_2] at h
    refine lv_aload_n hx hb dX6_waitsOn_13 rfl (lv_at hl 0 rfl) ?_
    refine va_get (D := (dC, dI)) (ci := 6) (v := .ref (am 16)) (C := RX6) (T := TX6) (N := 29) hx hb hts jX6_waitsOn_X6 hown hKz hP 0 mw_0 rfl 18 (by decide) (hts (.fieldLink RX6 56 "LendThreadsModel" "owner" "[I") (by decide +kernel)) (fun _ h9 => h9) rfl dX6_waitsOn_14 ?_
    refine lv_aload_n hx hb dX6_waitsOn_17 rfl (lv_at hl 0 rfl) ?_
    refine va_get (D := (dC, dI)) (ci := 6) (v := .ref (am 10)) (C := RX6) (T := TX6) (N := 29) hx hb hts jX6_waitsOn_X6 hown hKz hP 0 mw_0 rfl 11 (by decide) (hts (.fieldLink RX6 38 "LendThreadsModel" "waitsFor" "[I") (by decide +kernel)) (fun _ h9 => h9) rfl dX6_waitsOn_18 ?_
    refine lv_iload_n hx hb dX6_waitsOn_21 rfl (lv_at hl 1 rfl) ?_
    obtain ⟨g_3, h⟩ := gd_some h
    refine va_iald hx hb hKz hP 10 0 (mw_arr (k := 10) (by decide) (by decide) (by decide)) rfl (inb_in g_3) dX6_waitsOn_22 ?_
    refine lv_iconst (v := 1) hx hb dX6_waitsOn_23 (by decide) ?_
    refine lv_isub hx hb dX6_waitsOn_24 ?_
    obtain ⟨g_4, h⟩ := gd_some h
    refine va_iald hx hb hKz hP 16 0 (mw_arr (k := 16) (by decide) (by decide) (by decide)) rfl (inb_in g_4) dX6_waitsOn_25 ?_
    refine lv_iconst (v := 1) hx hb dX6_waitsOn_26 (by decide) ?_
    refine lv_isub hx hb dX6_waitsOn_27 ?_
    replace h := Option.some.inj h
    subst h
    exact W.iret (v := ((M 16 ((M 10 p1.toNatClampNeg) - 1).toNatClampNeg) - 1)) hx hb hr (fun t ht hW => ⟨_, rfl, rfl, ht⟩) (fun _ h => by cases h) dX6_waitsOn_28
  · rw [if_pos c_2] at h
    refine lv_iconst (v := (-1)) hx hb dX6_waitsOn_9 (by decide) ?_
    refine lv_goto (tgt := 28) hx hb dX6_waitsOn_10 (by decide) ?_
    replace h := Option.some.inj h
    subst h
    exact W.iret (v := (-1)) hx hb hr (fun t ht hW => ⟨_, rfl, rfl, ht⟩) (fun _ h => by cases h) dX6_waitsOn_28
