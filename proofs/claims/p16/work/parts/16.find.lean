theorem jX5_find_X5 : ∀ w ∈ u_ws RX5 TX5 5, w ∈ wsX5_find := by decide +kernel
def F_X5_find (M : Mem) (p1 : Int32) : Option (Option Nat) :=
  bi (F_X5_isWork M p1) fun q_1 => (if q_1 = 0 then some none else gd (inb p1 12) <| some (some (16 + 7 * p1.toNatClampNeg)))
set_option maxHeartbeats 4000000 in
set_option maxRecDepth 100000 in
theorem k_X5_find (l : Launch) (dC : Nat → ClassId) (dI : Nat → Nat → Nat) (cI c9 : ClassId) (ad : Nat → Nat) (hI : Inj 100 ad) (M : Mem) (p1 : Int32) (q : Option Nat) (h : F_X5_find M p1 = some q) : Met l yX5_find wsX5_find ({ frames := 1, cells := 0, slots := 0, locals := 21 }) (gP dC dI cI c9 ad M [.ref (ad 0), .int p1]) (va_Sq (fun x => x = q.map ad)) 0 0 (fun _ => False) := by
  refine Met.ofW (cc := cX5_find) (maxL := 2) (ret := (some (.object "LendThreads$Work"))) (by decide) rfl ?_
  intro p e s m args below meth c s₁ B hml hv
  obtain ⟨rfl, hP, hKK, hKw⟩ := hv
  have hx := B.exec
  have hb := B.bytes
  have hr := B.returns
  have hts := atoms_spec (ws := wsX5_find) B.pre
  have hown : s.vm.findClass RX5 = some m.cls := findClass_of_methodNamed B.named
  have hlocks := B.notSynchronized
  have hl := lv_entry ([.ref (ad 0), .int p1]) (n := 2) (Nat.le_of_ble_eq_true rfl)
  rw [lg_entry_eq]
  generalize (lg_sl ([.ref (ad 0), .int p1]) ++ List.replicate (2 - (lg_sl ([.ref (ad 0), .int p1])).length) Slot.unset).toArray = ls at hl ⊢
  have hl : lv_has ls 2 [(0, .ref (ad 0)), (1, .int p1)] := hl
  unfold F_X5_find at h
  refine lv_aload_n hx hb dX5_find_0 rfl (lv_at hl 0 rfl) ?_
  refine lv_iload_n hx hb dX5_find_1 rfl (lv_at hl 1 rfl) ?_
  obtain ⟨q_1, hq_1, h⟩ := bi_some h
  refine vp_callSi (va_Run.run (va_runV (As := [.int p1]) (rest := []) ⟨hx, hb, hml, hown, hts⟩ (k_X5_isWork l dC dI cI c9 ad hI M p1 q_1 hq_1) (cwV 1 hts gX5_find_X5_isWork rfl rfl rfl (by decide +kernel) ⟨Nat.le_of_ble_eq_true rfl, Nat.le_of_ble_eq_true rfl⟩) (gP_preV hKK hKw hP (va_recv hKw hP (ci := 5) (q0 := 0) rfl cw_lt)) rfl rfl hl.1 rfl (lv_room (Nat.le_of_ble_eq_true rfl)) dX5_find_2 ⟨Nat.zero_le _, Nat.zero_le _⟩)) (fun r_2 hr_2 => ?_)
  replace hr_2 := hr_2.symm
  subst hr_2
  refine lv_if_eq (tgt := 17) hx hb dX5_find_5 (by decide) (fun c_3 => ?_) (fun c_3 => ?_)
  · rw [if_pos c_3] at h
    refine lv_null hx hb dX5_find_17 ?_
    replace h := Option.some.inj h
    subst h
    exact W.aret (v := .null) hx hb hr (Or.inl ⟨_, rfl⟩) (Or.inl rfl) (fun t ht hW => ⟨none, rfl, rfl, ht⟩) (fun _ h => by cases h) dX5_find_18
  · rw [if_neg c_3] at h
    refine lv_aload_n hx hb dX5_find_8 rfl (lv_at hl 0 rfl) ?_
    refine va_get (D := (dC, dI)) (ci := 5) (v := .ref (ad 1)) (C := RX5) (T := TX5) (N := 5) hx hb hts jX5_find_X5 hown hKw hP 0 cw_lt rfl 0 (by decide) (hts (.fieldLink RX5 11 "LendThreads" "works" "[LLendThreads$Work;") (by decide +kernel)) (fun _ h9 => h9) rfl dX5_find_9 ?_
    refine lv_iload_n hx hb dX5_find_12 rfl (lv_at hl 1 rfl) ?_
    obtain ⟨g_4, h⟩ := gd_some h
    refine va_aldq hx hb hKw hP 1 1 cw_ws rfl (inb_in g_4) dX5_find_13 ?_
    refine W.eq (g2 := F0 m 14 ls [.ref (ad (16 + 7 * p1.toNatClampNeg))]) rfl ?_
    refine lv_goto (tgt := 18) hx hb dX5_find_14 (by decide) ?_
    replace h := Option.some.inj h
    subst h
    exact W.aret (v := .ref (ad (16 + 7 * p1.toNatClampNeg))) hx hb hr (Or.inl ⟨_, rfl⟩) (Or.inr ⟨_, rfl⟩) (fun t ht hW => ⟨some (ad (16 + 7 * p1.toNatClampNeg)), rfl, rfl, ht⟩) (fun _ h => by cases h) dX5_find_18
theorem find_wok {M : Mem} {v : Int32} {w : Nat} (h : F_X5_find M v = some (some w)) : wok w := by
  unfold F_X5_find at h
  obtain ⟨q, -, h⟩ := bi_some h
  by_cases c : q = 0
  · rw [if_pos c] at h; cases h
  · rw [if_neg c] at h
    obtain ⟨g, h⟩ := gd_some h
    cases h
    exact wok.of (bn_lt (inb_in g))
def F_X5_isOther (M : Mem) (p1 : Int32) (p2 : Int32) : Option (Int32) :=
  bi (F_X5_isWork M p2) fun q_1 => (if q_1 = 0 then some 0 else (if p2 = p1 then some 0 else some 1))
set_option maxHeartbeats 4000000 in
set_option maxRecDepth 100000 in
theorem k_X5_isOther (l : Launch) (dC : Nat → ClassId) (dI : Nat → Nat → Nat) (cI c9 : ClassId) (ad : Nat → Nat) (hI : Inj 100 ad) (M : Mem) (p1 : Int32) (p2 : Int32) (q : Int32) (h : F_X5_isOther M p1 p2 = some q) : Met l yX5_isOther wsX5_isOther ({ frames := 1, cells := 0, slots := 0, locals := 21 }) (gP dC dI cI c9 ad M [.ref (ad 0), .int p1, .int p2]) (vp_Si (fun x => x = q)) 0 0 (fun _ => False) := by
  refine Met.ofW (cc := cX5_isOther) (maxL := 3) (ret := (some .boolean)) (by decide) rfl ?_
  intro p e s m args below meth c s₁ B hml hv
  obtain ⟨rfl, hP, hKK, hKw⟩ := hv
  have hx := B.exec
  have hb := B.bytes
  have hr := B.returns
  have hts := atoms_spec (ws := wsX5_isOther) B.pre
  have hown : s.vm.findClass RX5 = some m.cls := findClass_of_methodNamed B.named
  have hlocks := B.notSynchronized
  have hl := lv_entry ([.ref (ad 0), .int p1, .int p2]) (n := 3) (Nat.le_of_ble_eq_true rfl)
  rw [lg_entry_eq]
  generalize (lg_sl ([.ref (ad 0), .int p1, .int p2]) ++ List.replicate (3 - (lg_sl ([.ref (ad 0), .int p1, .int p2])).length) Slot.unset).toArray = ls at hl ⊢
  have hl : lv_has ls 3 [(0, .ref (ad 0)), (1, .int p1), (2, .int p2)] := hl
  unfold F_X5_isOther at h
  refine lv_aload_n hx hb dX5_isOther_0 rfl (lv_at hl 0 rfl) ?_
  refine lv_iload_n hx hb dX5_isOther_1 rfl (lv_at hl 2 rfl) ?_
  obtain ⟨q_1, hq_1, h⟩ := bi_some h
  refine vp_callSi (va_Run.run (va_runV (As := [.int p2]) (rest := []) ⟨hx, hb, hml, hown, hts⟩ (k_X5_isWork l dC dI cI c9 ad hI M p2 q_1 hq_1) (cwV 1 hts gX5_isOther_X5_isWork rfl rfl rfl (by decide +kernel) ⟨Nat.le_of_ble_eq_true rfl, Nat.le_of_ble_eq_true rfl⟩) (gP_preV hKK hKw hP (va_recv hKw hP (ci := 5) (q0 := 0) rfl cw_lt)) rfl rfl hl.1 rfl (lv_room (Nat.le_of_ble_eq_true rfl)) dX5_isOther_2 ⟨Nat.zero_le _, Nat.zero_le _⟩)) (fun r_2 hr_2 => ?_)
  replace hr_2 := hr_2.symm
  subst hr_2
  refine lv_if_eq (tgt := 17) hx hb dX5_isOther_5 (by decide) (fun c_3 => ?_) (fun c_3 => ?_)
  · rw [if_pos c_3] at h
    refine lv_iconst (v := 0) hx hb dX5_isOther_17 (by decide) ?_
    replace h := Option.some.inj h
    subst h
    exact W.zret (v := 0) (ty := .boolean) hx hb hr (by rfl) (fun t ht hW => ⟨_, rfl, rfl, ht⟩) (fun _ h => by cases h) dX5_isOther_18
  · rw [if_neg c_3] at h
    refine lv_iload_n hx hb dX5_isOther_8 rfl (lv_at hl 2 rfl) ?_
    refine lv_iload_n hx hb dX5_isOther_9 rfl (lv_at hl 1 rfl) ?_
    refine lv_icmp_eq (tgt := 17) hx hb dX5_isOther_10 (by decide) (fun c_4 => ?_) (fun c_4 => ?_)
    · rw [if_pos c_4] at h
      refine lv_iconst (v := 0) hx hb dX5_isOther_17 (by decide) ?_
      replace h := Option.some.inj h
      subst h
      exact W.zret (v := 0) (ty := .boolean) hx hb hr (by rfl) (fun t ht hW => ⟨_, rfl, rfl, ht⟩) (fun _ h => by cases h) dX5_isOther_18
    · rw [if_neg c_4] at h
      refine lv_iconst (v := 1) hx hb dX5_isOther_13 (by decide) ?_
      refine lv_goto (tgt := 18) hx hb dX5_isOther_14 (by decide) ?_
      replace h := Option.some.inj h
      subst h
      exact W.zret (v := 1) (ty := .boolean) hx hb hr (by rfl) (fun t ht hW => ⟨_, rfl, rfl, ht⟩) (fun _ h => by cases h) dX5_isOther_18
