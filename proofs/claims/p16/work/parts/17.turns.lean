theorem jX5_undo_X4 : ∀ w ∈ u_ws RX4 TX4 12, w ∈ wsX5_undo := by decide +kernel
theorem jX5_undo_X5 : ∀ w ∈ u_ws RX5 TX5 5, w ∈ wsX5_undo := by decide +kernel
def F_X5_undo (M : Mem) (w : Nat) (p2 : Int32) : Option (Mem) :=
  bi (F_X3_restore M (M w 0)) fun q_1 => bi (F_X3_release q_1 (q_1 w 0)) fun q_4 => bm (up2 q_4 w 5 p2) fun M_7 => some M_7
set_option maxHeartbeats 4000000 in
set_option maxRecDepth 100000 in
theorem k_X5_undo (l : Launch) (dC : Nat → ClassId) (dI : Nat → Nat → Nat) (cI c9 : ClassId) (ad : Nat → Nat) (hI : Inj 100 ad) (M : Mem) (w : Nat) (hwk : wok w) (p2 : Int32) (q : Mem) (h : F_X5_undo M w p2 = some q) : Met l yX5_undo wsX5_undo ({ frames := 4, cells := 0, slots := 0, locals := 91 }) (gP dC dI cI c9 ad M [.ref (ad 0), .ref (ad w), .int p2]) (va_Qv (fun M' => M' = q) (fun M' t => va_P (dC, dI) vwCl (cW cI c9 ad M') t.heap) (Ac 100 ad)) 0 0 (Ac 100 ad) := by
  refine Met.ofW (cc := cX5_undo) (maxL := 3) (ret := none) (by decide) rfl ?_
  intro p e s m args below meth c s₁ B hml hv
  obtain ⟨rfl, hP, hKK, hKw⟩ := hv
  have hx := B.exec
  have hb := B.bytes
  have hr := B.returns
  have hts := atoms_spec (ws := wsX5_undo) B.pre
  have hown : s.vm.findClass RX5 = some m.cls := findClass_of_methodNamed B.named
  have hlocks := B.notSynchronized
  have hD := cwl_D hI (enc cI c9 ad M)
  have hS : va_S (Ac 100 ad) s.heap s.heap [] := va_S.rf
  have hl := lv_entry ([.ref (ad 0), .ref (ad w), .int p2]) (n := 3) (Nat.le_of_ble_eq_true rfl)
  rw [lg_entry_eq]
  generalize (lg_sl ([.ref (ad 0), .ref (ad w), .int p2]) ++ List.replicate (3 - (lg_sl ([.ref (ad 0), .ref (ad w), .int p2])).length) Slot.unset).toArray = ls at hl ⊢
  have hl : lv_has ls 3 [(0, .ref (ad 0)), (1, .ref (ad w)), (2, .int p2)] := hl
  unfold F_X5_undo at h
  refine lv_aload_n hx hb dX5_undo_0 rfl (lv_at hl 0 rfl) ?_
  refine va_get (D := (dC, dI)) (ci := 5) (v := .ref (ad 2)) (C := RX5) (T := TX5) (N := 5) hx hb hts jX5_undo_X5 hown hKw hP 0 cw_lt rfl 2 (by decide) (hts (.fieldLink RX5 18 "LendThreads" "shelf" "LLendThreads$Shelf;") (by decide +kernel)) (fun _ h9 => h9) rfl dX5_undo_1 ?_
  refine lv_aload_n hx hb dX5_undo_4 rfl (lv_at hl 1 rfl) ?_
  refine va_getN (D := (dC, dI)) (ci := 4) (v := .int (M w 0)) (C := RX4) (T := TX4) (N := 12) hx hb hts jX5_undo_X4 hown hKw hP w (cw_work (wok.lt hwk) (wok.k hwk)) rfl 0 (by decide) (va_Nw.use rfl (hKK.2.2 (.fieldLinkNest RX5 49 RX4 "number" "I" RX5) (by decide +kernel))) (fun _ h9 => h9) rfl dX5_undo_5 ?_
  obtain ⟨q_1, hq_1, h⟩ := bi_some h
  refine va_callv (va_runV (As := [.int (M w 0)]) (rest := []) ⟨hx, hb, hml, hown, hts⟩ (k_X3_restore l dC dI cI c9 ad hI M (M w 0) q_1 hq_1) (cwV 1 hts gX5_undo_X3_restore rfl rfl rfl (by decide +kernel) ⟨Nat.le_of_ble_eq_true rfl, Nat.le_of_ble_eq_true rfl⟩) (gP_preV hKK hKw hP (va_recv hKw hP (ci := 3) (q0 := 2) rfl cw_shelf)) rfl rfl hl.1 rfl (lv_room (Nat.le_of_ble_eq_true rfl)) dX5_undo_8 ⟨Nat.zero_le _, Nat.zero_le _⟩) hS (fun q _ h => h) (fun q h => h) (fun M_3 t H locs ht hvm hw hP hz1 hk1 hS => ?_)
  replace hw := hw.symm
  subst hw
  rw [ht] at hP
  have hD := cwl_D hI (enc cI c9 ad q_1)
  refine lv_aload_n hx hb dX5_undo_11 rfl (lv_at hl 0 rfl) ?_
  refine va_get (D := (dC, dI)) (ci := 5) (v := .ref (ad 2)) (C := RX5) (T := TX5) (N := 5) hx hb hts jX5_undo_X5 hown hKw hP 0 cw_lt rfl 2 (by decide) (hts (.fieldLink RX5 18 "LendThreads" "shelf" "LLendThreads$Shelf;") (by decide +kernel)) (fun _ h9 => h9) rfl dX5_undo_12 ?_
  refine lv_aload_n hx hb dX5_undo_15 rfl (lv_at hl 1 rfl) ?_
  refine va_getN (D := (dC, dI)) (ci := 4) (v := .int (q_1 w 0)) (C := RX4) (T := TX4) (N := 12) hx hb hts jX5_undo_X4 hown hKw hP w (cw_work (wok.lt hwk) (wok.k hwk)) rfl 0 (by decide) (va_Nw.use rfl (hKK.2.2 (.fieldLinkNest RX5 49 RX4 "number" "I" RX5) (by decide +kernel))) (fun _ h9 => h9) rfl dX5_undo_16 ?_
  obtain ⟨q_4, hq_4, h⟩ := bi_some h
  refine va_callv (va_runV (As := [.int (q_1 w 0)]) (rest := []) ⟨hx, hb, hml, hown, hts⟩ (k_X3_release l dC dI cI c9 ad hI q_1 (q_1 w 0) q_4 hq_4) (cwV 1 hts gX5_undo_X3_release rfl rfl rfl (by decide +kernel) ⟨Nat.le_of_ble_eq_true rfl, Nat.le_of_ble_eq_true rfl⟩) (gP_preV hKK hKw hP (va_recv hKw hP (ci := 3) (q0 := 2) rfl cw_shelf)) rfl rfl hl.1 rfl (lv_room (Nat.le_of_ble_eq_true rfl)) dX5_undo_19 ⟨Nat.zero_le _, Nat.zero_le _⟩) hS (fun q _ h => h) (fun q h => h) (fun M_6 t H locs ht hvm hw hP hz1 hk1 hS => ?_)
  replace hw := hw.symm
  subst hw
  rw [ht] at hP
  have hD := cwl_D hI (enc cI c9 ad q_4)
  refine lv_aload_n hx hb dX5_undo_22 rfl (lv_at hl 1 rfl) ?_
  refine lv_iload_n hx hb dX5_undo_23 rfl (lv_at hl 2 rfl) ?_
  refine va_putN (D := (dC, dI)) (ci := 4) (v := .int p2) (ty := .int) (C := RX4) (T := TX4) (N := 12) hx hb hts jX5_undo_X4 tyX4 tyX4_ok nmX4 hown hKw hP hD hS w (cw_work (wok.lt hwk) (wok.k hwk)) rfl 5 (by decide) (va_Nw.use rfl (hKK.2.2 (.fieldLinkNest RX5 103 RX4 "state" "I" RX5) (by decide +kernel))) (fun _ h9 => h9) rfl (by decide +kernel) rfl rfl (Nat.le_of_ble_eq_true rfl) dX5_undo_24 (fun H locs hP _ hS => ?_)
  have hP : va_P (dC, dI) vwCl (cW cI c9 ad (up2 q_4 w 5 p2)) H := by show va_P (dC, dI) vwCl (cwl 100 ad (enc cI c9 ad (up2 q_4 w 5 p2))) H; rw [← en_w5 (wok.k hwk), ← cwl_set (wok.lt hwk)]; exact hP
  have hD := cwl_D hI (enc cI c9 ad (up2 q_4 w 5 p2))
  generalize up2 q_4 w 5 p2 = M_7 at hP hD h
  replace h := bm_e h
  try dsimp only at h
  replace h := Option.some.inj h
  subst h
  exact W.vret hx hb hr (fun t ht hW => ⟨⟨_, rfl, rfl, (show va_P (dC, dI) vwCl (cW cI c9 ad M_7) t.heap by rw [ht]; exact hP)⟩, hS.F ht⟩) hS.2.2 dX5_undo_27
theorem jX5_sendAll_X4 : ∀ w ∈ u_ws RX4 TX4 12, w ∈ wsX5_sendAll := by decide +kernel
theorem jX5_sendAll_X5 : ∀ w ∈ u_ws RX5 TX5 5, w ∈ wsX5_sendAll := by decide +kernel
def L_X5_sendAll_14 (K : Mem → Int32 → Option (Mem)) (q_1 : Int32) (w : Nat) : Nat → Mem → Int32 → Option (Mem)
  | 0, _, _ => none
  | n + 1, M_3, v3_14 => (if q_1 ≤ v3_14 then K M_3 v3_14 else bi (F_X2_item M_3 (w + 4) (M_3 w 6) v3_14) fun q_5 => bi (F_X1_way M_3 (M_3 w 0) q_5) fun q_7 => bi (F_X1_send M_3 q_7) fun q_9 => L_X5_sendAll_14 K q_1 w n q_9 (v3_14 + 1))
def F_X5_sendAll (M : Mem) (w : Nat) : Option (Mem) :=
  bi (F_X2_count M (w + 4) (M w 6)) fun q_1 => L_X5_sendAll_14 (fun M_3 v3_14 => some M_3) q_1 w 4000 M 0
set_option maxHeartbeats 4000000 in
set_option maxRecDepth 100000 in
theorem k_X5_sendAll (l : Launch) (dC : Nat → ClassId) (dI : Nat → Nat → Nat) (cI c9 : ClassId) (ad : Nat → Nat) (hI : Inj 100 ad) (M : Mem) (w : Nat) (hwk : wok w) (q : Mem) (h : F_X5_sendAll M w = some q) : Met l yX5_sendAll wsX5_sendAll ({ frames := 2, cells := 0, slots := 0, locals := 43 }) (gP dC dI cI c9 ad M [.ref (ad 0), .ref (ad w)]) (va_Qv (fun M' => M' = q) (fun M' t => va_P (dC, dI) vwCl (cW cI c9 ad M') t.heap) (Ac 100 ad)) 0 0 (Ac 100 ad) := by
  refine Met.ofW (cc := cX5_sendAll) (maxL := 4) (ret := none) (by decide) rfl ?_
  intro p e s m args below meth c s₁ B hml hv
  obtain ⟨rfl, hP, hKK, hKw⟩ := hv
  have hx := B.exec
  have hb := B.bytes
  have hr := B.returns
  have hts := atoms_spec (ws := wsX5_sendAll) B.pre
  have hown : s.vm.findClass RX5 = some m.cls := findClass_of_methodNamed B.named
  have hlocks := B.notSynchronized
  have hD := cwl_D hI (enc cI c9 ad M)
  have hS : va_S (Ac 100 ad) s.heap s.heap [] := va_S.rf
  have hl := lv_entry ([.ref (ad 0), .ref (ad w)]) (n := 4) (Nat.le_of_ble_eq_true rfl)
  rw [lg_entry_eq]
  generalize (lg_sl ([.ref (ad 0), .ref (ad w)]) ++ List.replicate (4 - (lg_sl ([.ref (ad 0), .ref (ad w)])).length) Slot.unset).toArray = ls at hl ⊢
  have hl : lv_has ls 4 [(0, .ref (ad 0)), (1, .ref (ad w))] := hl
  unfold F_X5_sendAll at h
  refine lv_aload_n hx hb dX5_sendAll_0 rfl (lv_at hl 1 rfl) ?_
  refine va_getN (D := (dC, dI)) (ci := 4) (v := .ref (ad (w + 4))) (C := RX4) (T := TX4) (N := 12) hx hb hts jX5_sendAll_X4 hown hKw hP w (cw_work (wok.lt hwk) (wok.k hwk)) rfl 2 (by decide) (va_Nw.use rfl (hKK.2.2 (.fieldLinkNest RX5 81 RX4 "receivers" "LLendThreads$Rows;" RX5) (by decide +kernel))) (fun _ h9 => h9) rfl dX5_sendAll_1 ?_
  refine lv_aload_n hx hb dX5_sendAll_4 rfl (lv_at hl 1 rfl) ?_
  refine va_getN (D := (dC, dI)) (ci := 4) (v := .int (M w 6)) (C := RX4) (T := TX4) (N := 12) hx hb hts jX5_sendAll_X4 hown hKw hP w (cw_work (wok.lt hwk) (wok.k hwk)) rfl 6 (by decide) (va_Nw.use rfl (hKK.2.2 (.fieldLinkNest RX5 115 RX4 "step" "I" RX5) (by decide +kernel))) (fun _ h9 => h9) rfl dX5_sendAll_5 ?_
  obtain ⟨q_1, hq_1, h⟩ := bi_some h
  refine vp_callSi (va_Run.run (va_runV (As := [.int (M w 6)]) (rest := []) ⟨hx, hb, hml, hown, hts⟩ (k_X2_count l dC dI cI c9 ad hI M (w + 4) (wok.r4 hwk) (M w 6) q_1 hq_1) (cwV 1 hts gX5_sendAll_X2_count rfl rfl rfl (by decide +kernel) ⟨Nat.le_of_ble_eq_true rfl, Nat.le_of_ble_eq_true rfl⟩) (gP_preV hKK hKw hP (va_recv hKw hP (ci := 2) (q0 := (w + 4)) rfl (cw_rows (wok.r4 hwk).lt (wok.r4 hwk).k0))) rfl rfl hl.1 rfl (lv_room (Nat.le_of_ble_eq_true rfl)) dX5_sendAll_8 ⟨Nat.zero_le _, Nat.zero_le _⟩)) (fun r_2 hr_2 => ?_)
  replace hr_2 := hr_2.symm
  subst hr_2
  refine lv_istore_n (lv' := [(2, .int q_1), (0, .ref (ad 0)), (1, .ref (ad w))]) hx hb dX5_sendAll_11 rfl hl (by decide) rfl (fun ls hl => ?_)
  refine lv_iconst (v := 0) hx hb dX5_sendAll_12 (by decide) ?_
  refine lv_istore_n (lv' := [(3, .int 0), (2, .int q_1), (0, .ref (ad 0)), (1, .ref (ad w))]) hx hb dX5_sendAll_13 rfl hl (by decide) rfl (fun ls hl => ?_)
  have key14 : ∀ (K : Mem → Int32 → Option (Mem)), (∀ (M_3 : Mem) (v3_14 : Int32) (H : Heap) (locs : List Loc) (ls : Array Slot), K M_3 v3_14 = some q → va_P (dC, dI) vwCl (cW cI c9 ad M_3) H → va_S (Ac 100 ad) s.heap H locs → lv_has ls 4 [(3, .int v3_14), (2, .int q_1), (0, .ref (ad 0)), (1, .ref (ad w))] → W p l e (headSpec wsX5_sendAll ({ frames := 2, cells := 0, slots := 0, locals := 43 })).room s m ([.ref (ad 0), .ref (ad w)] : List Value).toArray below meth c H locs 0 0 (MQ below (va_Qv (fun M' => M' = q) (fun M' t => va_P (dC, dI) vwCl (cW cI c9 ad M') t.heap) (Ac 100 ad)) ([.ref (ad 0), .ref (ad w)] : List Value).toArray s 0 0 (Ac 100 ad)) (F0 m 51 ls [])) → ∀ (n : Nat), ∀ (M_3 : Mem) (v3_14 : Int32) (H : Heap) (locs : List Loc) (ls : Array Slot), L_X5_sendAll_14 K q_1 w n M_3 v3_14 = some q → va_P (dC, dI) vwCl (cW cI c9 ad M_3) H → va_S (Ac 100 ad) s.heap H locs → lv_has ls 4 [(3, .int v3_14), (2, .int q_1), (0, .ref (ad 0)), (1, .ref (ad w))] → W p l e (headSpec wsX5_sendAll ({ frames := 2, cells := 0, slots := 0, locals := 43 })).room s m ([.ref (ad 0), .ref (ad w)] : List Value).toArray below meth c H locs 0 0 (MQ below (va_Qv (fun M' => M' = q) (fun M' t => va_P (dC, dI) vwCl (cW cI c9 ad M') t.heap) (Ac 100 ad)) ([.ref (ad 0), .ref (ad w)] : List Value).toArray s 0 0 (Ac 100 ad)) (F0 m 14 ls []) := by
    intro K hk n
    induction n with
    | zero =>
      intro M_3 v3_14 H locs ls h
      exact absurd h (by simp [L_X5_sendAll_14])
    | succ n ih =>
      intro M_3 v3_14 H locs ls h hP hS hl
      have hD := cwl_D hI (enc cI c9 ad M_3)
      simp only [L_X5_sendAll_14] at h
      refine lv_iload_n hx hb dX5_sendAll_14 rfl (lv_at hl 0 rfl) ?_
      refine lv_iload_n hx hb dX5_sendAll_15 rfl (lv_at hl 1 rfl) ?_
      refine lv_icmp_ge (tgt := 51) hx hb dX5_sendAll_16 (by decide) (fun c_4 => ?_) (fun c_4 => ?_)
      · rw [if_pos c_4] at h
        exact hk M_3 v3_14 _ _ _ h hP hS (lv_sub hl [0, 1, 2, 3] rfl)
      · rw [if_neg c_4] at h
        refine lv_aload_n hx hb dX5_sendAll_19 rfl (lv_at hl 2 rfl) ?_
        refine va_get (D := (dC, dI)) (ci := 5) (v := .ref (ad 9)) (C := RX5) (T := TX5) (N := 5) hx hb hts jX5_sendAll_X5 hown hKw hP 0 cw_lt rfl 3 (by decide) (hts (.fieldLink RX5 25 "LendThreads" "post" "LLendThreads$Post;") (by decide +kernel)) (fun _ h9 => h9) rfl dX5_sendAll_20 ?_
        refine lv_aload_n hx hb dX5_sendAll_23 rfl (lv_at hl 3 rfl) ?_
        refine va_getN (D := (dC, dI)) (ci := 4) (v := .int (M_3 w 0)) (C := RX4) (T := TX4) (N := 12) hx hb hts jX5_sendAll_X4 hown hKw hP w (cw_work (wok.lt hwk) (wok.k hwk)) rfl 0 (by decide) (va_Nw.use rfl (hKK.2.2 (.fieldLinkNest RX5 49 RX4 "number" "I" RX5) (by decide +kernel))) (fun _ h9 => h9) rfl dX5_sendAll_24 ?_
        refine lv_aload_n hx hb dX5_sendAll_27 rfl (lv_at hl 3 rfl) ?_
        refine va_getN (D := (dC, dI)) (ci := 4) (v := .ref (ad (w + 4))) (C := RX4) (T := TX4) (N := 12) hx hb hts jX5_sendAll_X4 hown hKw hP w (cw_work (wok.lt hwk) (wok.k hwk)) rfl 2 (by decide) (va_Nw.use rfl (hKK.2.2 (.fieldLinkNest RX5 81 RX4 "receivers" "LLendThreads$Rows;" RX5) (by decide +kernel))) (fun _ h9 => h9) rfl dX5_sendAll_28 ?_
        refine lv_aload_n hx hb dX5_sendAll_31 rfl (lv_at hl 3 rfl) ?_
        refine va_getN (D := (dC, dI)) (ci := 4) (v := .int (M_3 w 6)) (C := RX4) (T := TX4) (N := 12) hx hb hts jX5_sendAll_X4 hown hKw hP w (cw_work (wok.lt hwk) (wok.k hwk)) rfl 6 (by decide) (va_Nw.use rfl (hKK.2.2 (.fieldLinkNest RX5 115 RX4 "step" "I" RX5) (by decide +kernel))) (fun _ h9 => h9) rfl dX5_sendAll_32 ?_
        refine lv_iload_n hx hb dX5_sendAll_35 rfl (lv_at hl 0 rfl) ?_
        obtain ⟨q_5, hq_5, h⟩ := bi_some h
        refine vp_callSi (va_Run.run (va_runV (As := [.int (M_3 w 6), .int v3_14]) (rest := [.int (M_3 w 0), .ref (ad 9)]) ⟨hx, hb, hml, hown, hts⟩ (k_X2_item l dC dI cI c9 ad hI M_3 (w + 4) (wok.r4 hwk) (M_3 w 6) v3_14 q_5 hq_5) (cwV 2 hts gX5_sendAll_X2_item rfl rfl rfl (by decide +kernel) ⟨Nat.le_of_ble_eq_true rfl, Nat.le_of_ble_eq_true rfl⟩) (gP_preV hKK hKw hP (va_recv hKw hP (ci := 2) (q0 := (w + 4)) rfl (cw_rows (wok.r4 hwk).lt (wok.r4 hwk).k0))) rfl rfl hl.1 rfl (lv_room (Nat.le_of_ble_eq_true rfl)) dX5_sendAll_36 ⟨Nat.zero_le _, Nat.zero_le _⟩)) (fun r_6 hr_6 => ?_)
        replace hr_6 := hr_6.symm
        subst hr_6
        obtain ⟨q_7, hq_7, h⟩ := bi_some h
        refine vp_callSi (va_Run.run (va_runS (As := [.int (M_3 w 0), .int q_5]) (rest := [.ref (ad 9)]) ⟨hx, hb, hml, hown, hts⟩ (k_X1_way l dC dI cI c9 ad hI M_3 (M_3 w 0) q_5 q_7 hq_7) (va_cwS 2 hts gX5_sendAll_X1_way rfl rfl rfl (by decide +kernel) ⟨Nat.le_of_ble_eq_true rfl, Nat.le_of_ble_eq_true rfl⟩) (gP_preS hKK hKw hP) rfl rfl hl.1 rfl (lv_room (Nat.le_of_ble_eq_true rfl)) dX5_sendAll_39 ⟨Nat.zero_le _, Nat.zero_le _⟩)) (fun r_8 hr_8 => ?_)
        replace hr_8 := hr_8.symm
        subst hr_8
        obtain ⟨q_9, hq_9, h⟩ := bi_some h
        refine va_callv (va_runV (As := [.int q_7]) (rest := []) ⟨hx, hb, hml, hown, hts⟩ (k_X1_send l dC dI cI c9 ad hI M_3 q_7 q_9 hq_9) (cwV 1 hts gX5_sendAll_X1_send rfl rfl rfl (by decide +kernel) ⟨Nat.le_of_ble_eq_true rfl, Nat.le_of_ble_eq_true rfl⟩) (gP_preV hKK hKw hP (va_recv hKw hP (ci := 1) (q0 := 9) rfl cw_post)) rfl rfl hl.1 rfl (lv_room (Nat.le_of_ble_eq_true rfl)) dX5_sendAll_42 ⟨Nat.zero_le _, Nat.zero_le _⟩) hS (fun q _ h => h) (fun q h => h) (fun M_11 t H locs ht hvm hw hP hz1 hk1 hS => ?_)
        replace hw := hw.symm
        subst hw
        rw [ht] at hP
        have hD := cwl_D hI (enc cI c9 ad q_9)
        refine lv_iinc (v := v3_14 + 1) (lv' := [(3, .int (v3_14 + 1)), (2, .int q_1), (0, .ref (ad 0)), (1, .ref (ad w))]) hx hb dX5_sendAll_45 hl (k := 0) rfl rfl (by decide) rfl (fun ls hl => ?_)
        refine lv_goto (tgt := 14) hx hb dX5_sendAll_48 (by decide) ?_
        exact ih q_9 (v3_14 + 1) _ _ _ h hP hS (lv_sub hl [0, 1, 2, 3] rfl)
  refine key14 _ (fun M_3 v3_14 H locs ls h hP hS hl => ?_) 4000 M 0 _ _ _ h hP hS (lv_sub hl [0, 1, 2, 3] rfl)
  have hD := cwl_D hI (enc cI c9 ad M_3)
  try dsimp only at h
  replace h := Option.some.inj h
  subst h
  exact W.vret hx hb hr (fun t ht hW => ⟨⟨_, rfl, rfl, (show va_P (dC, dI) vwCl (cW cI c9 ad M_3) t.heap by rw [ht]; exact hP)⟩, hS.F ht⟩) hS.2.2 dX5_sendAll_51
theorem jX5_goForMessage_X4 : ∀ w ∈ u_ws RX4 TX4 12, w ∈ wsX5_goForMessage := by decide +kernel
theorem jX5_goForMessage_X5 : ∀ w ∈ u_ws RX5 TX5 5, w ∈ wsX5_goForMessage := by decide +kernel
def F_X5_goForMessage (M : Mem) (w : Nat) (p2 : Int32) : Option (Int32 × Mem) :=
  bi (F_X1_way M p2 (M w 0)) fun q_1 => bi (F_X1_take M q_1) fun q_3 => (if q_3.1 = 0 then bi (F_X1_findLost q_3.2 q_1) fun q_7 => (if q_7.1 = 0 then some (4, q_7.2) else bm (up2 q_7.2 w 8 ((q_7.2 w 8) + 1)) fun M_11 => some (5, M_11)) else some (1, q_3.2))
set_option maxHeartbeats 4000000 in
set_option maxRecDepth 100000 in
theorem k_X5_goForMessage (l : Launch) (dC : Nat → ClassId) (dI : Nat → Nat → Nat) (cI c9 : ClassId) (ad : Nat → Nat) (hI : Inj 100 ad) (M : Mem) (w : Nat) (hwk : wok w) (p2 : Int32) (q : Int32 × Mem) (h : F_X5_goForMessage M w p2 = some q) : Met l yX5_goForMessage wsX5_goForMessage ({ frames := 2, cells := 0, slots := 0, locals := 42 }) (gP dC dI cI c9 ad M [.ref (ad 0), .ref (ad w), .int p2]) (va_Qi (fun x M' => x = q.1 ∧ M' = q.2) (fun M' t => va_P (dC, dI) vwCl (cW cI c9 ad M') t.heap) (Ac 100 ad)) 0 0 (Ac 100 ad) := by
  refine Met.ofW (cc := cX5_goForMessage) (maxL := 4) (ret := (some .int)) (by decide) rfl ?_
  intro p e s m args below meth c s₁ B hml hv
  obtain ⟨rfl, hP, hKK, hKw⟩ := hv
  have hx := B.exec
  have hb := B.bytes
  have hr := B.returns
  have hts := atoms_spec (ws := wsX5_goForMessage) B.pre
  have hown : s.vm.findClass RX5 = some m.cls := findClass_of_methodNamed B.named
  have hlocks := B.notSynchronized
  have hD := cwl_D hI (enc cI c9 ad M)
  have hS : va_S (Ac 100 ad) s.heap s.heap [] := va_S.rf
  have hl := lv_entry ([.ref (ad 0), .ref (ad w), .int p2]) (n := 4) (Nat.le_of_ble_eq_true rfl)
  rw [lg_entry_eq]
  generalize (lg_sl ([.ref (ad 0), .ref (ad w), .int p2]) ++ List.replicate (4 - (lg_sl ([.ref (ad 0), .ref (ad w), .int p2])).length) Slot.unset).toArray = ls at hl ⊢
  have hl : lv_has ls 4 [(0, .ref (ad 0)), (1, .ref (ad w)), (2, .int p2)] := hl
  unfold F_X5_goForMessage at h
  refine lv_iload_n hx hb dX5_goForMessage_0 rfl (lv_at hl 2 rfl) ?_
  refine lv_aload_n hx hb dX5_goForMessage_1 rfl (lv_at hl 1 rfl) ?_
  refine va_getN (D := (dC, dI)) (ci := 4) (v := .int (M w 0)) (C := RX4) (T := TX4) (N := 12) hx hb hts jX5_goForMessage_X4 hown hKw hP w (cw_work (wok.lt hwk) (wok.k hwk)) rfl 0 (by decide) (va_Nw.use rfl (hKK.2.2 (.fieldLinkNest RX5 49 RX4 "number" "I" RX5) (by decide +kernel))) (fun _ h9 => h9) rfl dX5_goForMessage_2 ?_
  obtain ⟨q_1, hq_1, h⟩ := bi_some h
  refine vp_callSi (va_Run.run (va_runS (As := [.int p2, .int (M w 0)]) (rest := []) ⟨hx, hb, hml, hown, hts⟩ (k_X1_way l dC dI cI c9 ad hI M p2 (M w 0) q_1 hq_1) (va_cwS 2 hts gX5_goForMessage_X1_way rfl rfl rfl (by decide +kernel) ⟨Nat.le_of_ble_eq_true rfl, Nat.le_of_ble_eq_true rfl⟩) (gP_preS hKK hKw hP) rfl rfl hl.1 rfl (lv_room (Nat.le_of_ble_eq_true rfl)) dX5_goForMessage_5 ⟨Nat.zero_le _, Nat.zero_le _⟩)) (fun r_2 hr_2 => ?_)
  replace hr_2 := hr_2.symm
  subst hr_2
  refine lv_istore_n (lv' := [(3, .int q_1), (0, .ref (ad 0)), (1, .ref (ad w)), (2, .int p2)]) hx hb dX5_goForMessage_8 rfl hl (by decide) rfl (fun ls hl => ?_)
  refine lv_aload_n hx hb dX5_goForMessage_9 rfl (lv_at hl 1 rfl) ?_
  refine va_get (D := (dC, dI)) (ci := 5) (v := .ref (ad 9)) (C := RX5) (T := TX5) (N := 5) hx hb hts jX5_goForMessage_X5 hown hKw hP 0 cw_lt rfl 3 (by decide) (hts (.fieldLink RX5 25 "LendThreads" "post" "LLendThreads$Post;") (by decide +kernel)) (fun _ h9 => h9) rfl dX5_goForMessage_10 ?_
  refine lv_iload_n hx hb dX5_goForMessage_13 rfl (lv_at hl 0 rfl) ?_
  obtain ⟨q_3, hq_3, h⟩ := bi_some h
  refine va_calli (va_runV (As := [.int q_1]) (rest := []) ⟨hx, hb, hml, hown, hts⟩ (k_X1_take l dC dI cI c9 ad hI M q_1 q_3 hq_3) (cwV 1 hts gX5_goForMessage_X1_take rfl rfl rfl (by decide +kernel) ⟨Nat.le_of_ble_eq_true rfl, Nat.le_of_ble_eq_true rfl⟩) (gP_preV hKK hKw hP (va_recv hKw hP (ci := 1) (q0 := 9) rfl cw_post)) rfl rfl hl.1 rfl (lv_room (Nat.le_of_ble_eq_true rfl)) dX5_goForMessage_14 ⟨Nat.zero_le _, Nat.zero_le _⟩) hS (fun q _ h => h) (fun q h => h) (fun r_4 M_5 t H locs ht hvm hw hP hz1 hk1 hS => ?_)
  obtain ⟨h1, h2⟩ := hw
  subst h1 h2
  rw [ht] at hP
  have hD := cwl_D hI (enc cI c9 ad q_3.2)
  refine lv_if_eq (tgt := 22) hx hb dX5_goForMessage_17 (by decide) (fun c_6 => ?_) (fun c_6 => ?_)
  · rw [if_pos c_6] at h
    refine lv_aload_n hx hb dX5_goForMessage_22 rfl (lv_at hl 1 rfl) ?_
    refine va_get (D := (dC, dI)) (ci := 5) (v := .ref (ad 9)) (C := RX5) (T := TX5) (N := 5) hx hb hts jX5_goForMessage_X5 hown hKw hP 0 cw_lt rfl 3 (by decide) (hts (.fieldLink RX5 25 "LendThreads" "post" "LLendThreads$Post;") (by decide +kernel)) (fun _ h9 => h9) rfl dX5_goForMessage_23 ?_
    refine lv_iload_n hx hb dX5_goForMessage_26 rfl (lv_at hl 0 rfl) ?_
    obtain ⟨q_7, hq_7, h⟩ := bi_some h
    refine va_calli (va_runV (As := [.int q_1]) (rest := []) ⟨hx, hb, hml, hown, hts⟩ (k_X1_findLost l dC dI cI c9 ad hI q_3.2 q_1 q_7 hq_7) (cwV 1 hts gX5_goForMessage_X1_findLost rfl rfl rfl (by decide +kernel) ⟨Nat.le_of_ble_eq_true rfl, Nat.le_of_ble_eq_true rfl⟩) (gP_preV hKK hKw hP (va_recv hKw hP (ci := 1) (q0 := 9) rfl cw_post)) rfl rfl hl.1 rfl (lv_room (Nat.le_of_ble_eq_true rfl)) dX5_goForMessage_27 ⟨Nat.zero_le _, Nat.zero_le _⟩) hS (fun q _ h => h) (fun q h => h) (fun r_8 M_9 t H locs ht hvm hw hP hz1 hk1 hS => ?_)
    obtain ⟨h1, h2⟩ := hw
    subst h1 h2
    rw [ht] at hP
    have hD := cwl_D hI (enc cI c9 ad q_7.2)
    refine lv_if_eq (tgt := 45) hx hb dX5_goForMessage_30 (by decide) (fun c_10 => ?_) (fun c_10 => ?_)
    · rw [if_pos c_10] at h
      refine lv_iconst (v := 4) hx hb dX5_goForMessage_45 (by decide) ?_
      replace h := Option.some.inj h
      subst h
      exact W.iret (v := 4) hx hb hr (fun t ht hW => ⟨⟨_, _, rfl, ⟨rfl, rfl⟩, (show va_P (dC, dI) vwCl (cW cI c9 ad q_7.2) t.heap by rw [ht]; exact hP)⟩, hS.F ht⟩) hS.2.2 dX5_goForMessage_46
    · rw [if_neg c_10] at h
      refine lv_aload_n hx hb dX5_goForMessage_33 rfl (lv_at hl 2 rfl) ?_
      refine lv_dup hx hb dX5_goForMessage_34 rfl ?_
      refine va_getN (D := (dC, dI)) (ci := 4) (v := .int (q_7.2 w 8)) (C := RX4) (T := TX4) (N := 12) hx hb hts jX5_goForMessage_X4 hown hKw hP w (cw_work (wok.lt hwk) (wok.k hwk)) rfl 8 (by decide) (va_Nw.use rfl (hKK.2.2 (.fieldLinkNest RX5 124 RX4 "askedFor" "I" RX5) (by decide +kernel))) (fun _ h9 => h9) rfl dX5_goForMessage_35 ?_
      refine lv_iconst (v := 1) hx hb dX5_goForMessage_38 (by decide) ?_
      refine lv_iadd hx hb dX5_goForMessage_39 ?_
      refine va_putN (D := (dC, dI)) (ci := 4) (v := .int ((q_7.2 w 8) + 1)) (ty := .int) (C := RX4) (T := TX4) (N := 12) hx hb hts jX5_goForMessage_X4 tyX4 tyX4_ok nmX4 hown hKw hP hD hS w (cw_work (wok.lt hwk) (wok.k hwk)) rfl 8 (by decide) (va_Nw.use rfl (hKK.2.2 (.fieldLinkNest RX5 124 RX4 "askedFor" "I" RX5) (by decide +kernel))) (fun _ h9 => h9) rfl (by decide +kernel) rfl rfl (Nat.le_of_ble_eq_true rfl) dX5_goForMessage_40 (fun H locs hP _ hS => ?_)
      have hP : va_P (dC, dI) vwCl (cW cI c9 ad (up2 q_7.2 w 8 ((q_7.2 w 8) + 1))) H := by show va_P (dC, dI) vwCl (cwl 100 ad (enc cI c9 ad (up2 q_7.2 w 8 ((q_7.2 w 8) + 1)))) H; rw [← en_w8 (wok.k hwk), ← cwl_set (wok.lt hwk)]; exact hP
      have hD := cwl_D hI (enc cI c9 ad (up2 q_7.2 w 8 ((q_7.2 w 8) + 1)))
      generalize up2 q_7.2 w 8 ((q_7.2 w 8) + 1) = M_11 at hP hD h
      replace h := bm_e h
      try dsimp only at h
      refine lv_iconst (v := 5) hx hb dX5_goForMessage_43 (by decide) ?_
      replace h := Option.some.inj h
      subst h
      exact W.iret (v := 5) hx hb hr (fun t ht hW => ⟨⟨_, _, rfl, ⟨rfl, rfl⟩, (show va_P (dC, dI) vwCl (cW cI c9 ad M_11) t.heap by rw [ht]; exact hP)⟩, hS.F ht⟩) hS.2.2 dX5_goForMessage_44
  · rw [if_neg c_6] at h
    refine lv_iconst (v := 1) hx hb dX5_goForMessage_20 (by decide) ?_
    replace h := Option.some.inj h
    subst h
    exact W.iret (v := 1) hx hb hr (fun t ht hW => ⟨⟨_, _, rfl, ⟨rfl, rfl⟩, (show va_P (dC, dI) vwCl (cW cI c9 ad q_3.2) t.heap by rw [ht]; exact hP)⟩, hS.F ht⟩) hS.2.2 dX5_goForMessage_21
theorem jX5_goForCopy_X3 : ∀ w ∈ u_ws RX3 TX3 4, w ∈ wsX5_goForCopy := by decide +kernel
theorem jX5_goForCopy_X4 : ∀ w ∈ u_ws RX4 TX4 12, w ∈ wsX5_goForCopy := by decide +kernel
theorem jX5_goForCopy_X5 : ∀ w ∈ u_ws RX5 TX5 5, w ∈ wsX5_goForCopy := by decide +kernel
def F_X5_goForCopy (M : Mem) (w : Nat) (p2 : Int32) : Option (Int32 × Mem) :=
  gd (inb p2 (ln 5)) <| (if (M 5 p2.toNatClampNeg) = (M w 0) then some (1, M) else bi (F_X3_isFreeFor M p2 (M w 0)) fun q_3 => (if q_3 = 0 then bi (F_X3_standInLine M p2 (M w 0)) fun q_6 => some (3, q_6) else bi (F_X3_take M p2 (M w 0)) fun q_9 => some (1, q_9)))
set_option maxHeartbeats 4000000 in
set_option maxRecDepth 100000 in
theorem k_X5_goForCopy (l : Launch) (dC : Nat → ClassId) (dI : Nat → Nat → Nat) (cI c9 : ClassId) (ad : Nat → Nat) (hI : Inj 100 ad) (M : Mem) (w : Nat) (hwk : wok w) (p2 : Int32) (q : Int32 × Mem) (h : F_X5_goForCopy M w p2 = some q) : Met l yX5_goForCopy wsX5_goForCopy ({ frames := 4, cells := 0, slots := 0, locals := 91 }) (gP dC dI cI c9 ad M [.ref (ad 0), .ref (ad w), .int p2]) (va_Qi (fun x M' => x = q.1 ∧ M' = q.2) (fun M' t => va_P (dC, dI) vwCl (cW cI c9 ad M') t.heap) (Ac 100 ad)) 0 0 (Ac 100 ad) := by
  refine Met.ofW (cc := cX5_goForCopy) (maxL := 3) (ret := (some .int)) (by decide) rfl ?_
  intro p e s m args below meth c s₁ B hml hv
  obtain ⟨rfl, hP, hKK, hKw⟩ := hv
  have hx := B.exec
  have hb := B.bytes
  have hr := B.returns
  have hts := atoms_spec (ws := wsX5_goForCopy) B.pre
  have hown : s.vm.findClass RX5 = some m.cls := findClass_of_methodNamed B.named
  have hlocks := B.notSynchronized
  have hD := cwl_D hI (enc cI c9 ad M)
  have hS : va_S (Ac 100 ad) s.heap s.heap [] := va_S.rf
  have hl := lv_entry ([.ref (ad 0), .ref (ad w), .int p2]) (n := 3) (Nat.le_of_ble_eq_true rfl)
  rw [lg_entry_eq]
  generalize (lg_sl ([.ref (ad 0), .ref (ad w), .int p2]) ++ List.replicate (3 - (lg_sl ([.ref (ad 0), .ref (ad w), .int p2])).length) Slot.unset).toArray = ls at hl ⊢
  have hl : lv_has ls 3 [(0, .ref (ad 0)), (1, .ref (ad w)), (2, .int p2)] := hl
  unfold F_X5_goForCopy at h
  refine lv_aload_n hx hb dX5_goForCopy_0 rfl (lv_at hl 0 rfl) ?_
  refine va_get (D := (dC, dI)) (ci := 5) (v := .ref (ad 2)) (C := RX5) (T := TX5) (N := 5) hx hb hts jX5_goForCopy_X5 hown hKw hP 0 cw_lt rfl 2 (by decide) (hts (.fieldLink RX5 18 "LendThreads" "shelf" "LLendThreads$Shelf;") (by decide +kernel)) (fun _ h9 => h9) rfl dX5_goForCopy_1 ?_
  refine va_getN (D := (dC, dI)) (ci := 3) (v := .ref (ad 5)) (C := RX3) (T := TX3) (N := 4) hx hb hts jX5_goForCopy_X3 hown hKw hP 2 cw_shelf rfl 2 (by decide) (va_Nw.use rfl (hKK.2.2 (.fieldLinkNest RX5 127 RX3 "holders" "[I" RX5) (by decide +kernel))) (fun _ h9 => h9) rfl dX5_goForCopy_4 ?_
  refine lv_iload_n hx hb dX5_goForCopy_7 rfl (lv_at hl 2 rfl) ?_
  obtain ⟨g_1, h⟩ := gd_some h
  refine va_iald hx hb hKw hP 5 0 (cw_arr (k := 5) (by decide) (by decide)) rfl (inb_in g_1) dX5_goForCopy_8 ?_
  refine lv_aload_n hx hb dX5_goForCopy_9 rfl (lv_at hl 1 rfl) ?_
  refine va_getN (D := (dC, dI)) (ci := 4) (v := .int (M w 0)) (C := RX4) (T := TX4) (N := 12) hx hb hts jX5_goForCopy_X4 hown hKw hP w (cw_work (wok.lt hwk) (wok.k hwk)) rfl 0 (by decide) (va_Nw.use rfl (hKK.2.2 (.fieldLinkNest RX5 49 RX4 "number" "I" RX5) (by decide +kernel))) (fun _ h9 => h9) rfl dX5_goForCopy_10 ?_
  refine lv_icmp_ne (tgt := 18) hx hb dX5_goForCopy_13 (by decide) (fun c_2 => ?_) (fun c_2 => ?_)
  · rw [if_neg c_2] at h
    refine lv_aload_n hx hb dX5_goForCopy_18 rfl (lv_at hl 0 rfl) ?_
    refine va_get (D := (dC, dI)) (ci := 5) (v := .ref (ad 2)) (C := RX5) (T := TX5) (N := 5) hx hb hts jX5_goForCopy_X5 hown hKw hP 0 cw_lt rfl 2 (by decide) (hts (.fieldLink RX5 18 "LendThreads" "shelf" "LLendThreads$Shelf;") (by decide +kernel)) (fun _ h9 => h9) rfl dX5_goForCopy_19 ?_
    refine lv_iload_n hx hb dX5_goForCopy_22 rfl (lv_at hl 2 rfl) ?_
    refine lv_aload_n hx hb dX5_goForCopy_23 rfl (lv_at hl 1 rfl) ?_
    refine va_getN (D := (dC, dI)) (ci := 4) (v := .int (M w 0)) (C := RX4) (T := TX4) (N := 12) hx hb hts jX5_goForCopy_X4 hown hKw hP w (cw_work (wok.lt hwk) (wok.k hwk)) rfl 0 (by decide) (va_Nw.use rfl (hKK.2.2 (.fieldLinkNest RX5 49 RX4 "number" "I" RX5) (by decide +kernel))) (fun _ h9 => h9) rfl dX5_goForCopy_24 ?_
    obtain ⟨q_3, hq_3, h⟩ := bi_some h
    refine vp_callSi (va_Run.run (va_runV (As := [.int p2, .int (M w 0)]) (rest := []) ⟨hx, hb, hml, hown, hts⟩ (k_X3_isFreeFor l dC dI cI c9 ad hI M p2 (M w 0) q_3 hq_3) (cwV 2 hts gX5_goForCopy_X3_isFreeFor rfl rfl rfl (by decide +kernel) ⟨Nat.le_of_ble_eq_true rfl, Nat.le_of_ble_eq_true rfl⟩) (gP_preV hKK hKw hP (va_recv hKw hP (ci := 3) (q0 := 2) rfl cw_shelf)) rfl rfl hl.1 rfl (lv_room (Nat.le_of_ble_eq_true rfl)) dX5_goForCopy_27 ⟨Nat.zero_le _, Nat.zero_le _⟩)) (fun r_4 hr_4 => ?_)
    replace hr_4 := hr_4.symm
    subst hr_4
    refine lv_if_eq (tgt := 47) hx hb dX5_goForCopy_30 (by decide) (fun c_5 => ?_) (fun c_5 => ?_)
    · rw [if_pos c_5] at h
      refine lv_aload_n hx hb dX5_goForCopy_47 rfl (lv_at hl 0 rfl) ?_
      refine va_get (D := (dC, dI)) (ci := 5) (v := .ref (ad 2)) (C := RX5) (T := TX5) (N := 5) hx hb hts jX5_goForCopy_X5 hown hKw hP 0 cw_lt rfl 2 (by decide) (hts (.fieldLink RX5 18 "LendThreads" "shelf" "LLendThreads$Shelf;") (by decide +kernel)) (fun _ h9 => h9) rfl dX5_goForCopy_48 ?_
      refine lv_iload_n hx hb dX5_goForCopy_51 rfl (lv_at hl 2 rfl) ?_
      refine lv_aload_n hx hb dX5_goForCopy_52 rfl (lv_at hl 1 rfl) ?_
      refine va_getN (D := (dC, dI)) (ci := 4) (v := .int (M w 0)) (C := RX4) (T := TX4) (N := 12) hx hb hts jX5_goForCopy_X4 hown hKw hP w (cw_work (wok.lt hwk) (wok.k hwk)) rfl 0 (by decide) (va_Nw.use rfl (hKK.2.2 (.fieldLinkNest RX5 49 RX4 "number" "I" RX5) (by decide +kernel))) (fun _ h9 => h9) rfl dX5_goForCopy_53 ?_
      obtain ⟨q_6, hq_6, h⟩ := bi_some h
      refine va_callv (va_runV (As := [.int p2, .int (M w 0)]) (rest := []) ⟨hx, hb, hml, hown, hts⟩ (k_X3_standInLine l dC dI cI c9 ad hI M p2 (M w 0) q_6 hq_6) (cwV 2 hts gX5_goForCopy_X3_standInLine rfl rfl rfl (by decide +kernel) ⟨Nat.le_of_ble_eq_true rfl, Nat.le_of_ble_eq_true rfl⟩) (gP_preV hKK hKw hP (va_recv hKw hP (ci := 3) (q0 := 2) rfl cw_shelf)) rfl rfl hl.1 rfl (lv_room (Nat.le_of_ble_eq_true rfl)) dX5_goForCopy_56 ⟨Nat.zero_le _, Nat.zero_le _⟩) hS (fun q _ h => h) (fun q h => h) (fun M_8 t H locs ht hvm hw hP hz1 hk1 hS => ?_)
      replace hw := hw.symm
      subst hw
      rw [ht] at hP
      have hD := cwl_D hI (enc cI c9 ad q_6)
      refine lv_iconst (v := 3) hx hb dX5_goForCopy_59 (by decide) ?_
      replace h := Option.some.inj h
      subst h
      exact W.iret (v := 3) hx hb hr (fun t ht hW => ⟨⟨_, _, rfl, ⟨rfl, rfl⟩, (show va_P (dC, dI) vwCl (cW cI c9 ad q_6) t.heap by rw [ht]; exact hP)⟩, hS.F ht⟩) hS.2.2 dX5_goForCopy_60
    · rw [if_neg c_5] at h
      refine lv_aload_n hx hb dX5_goForCopy_33 rfl (lv_at hl 0 rfl) ?_
      refine va_get (D := (dC, dI)) (ci := 5) (v := .ref (ad 2)) (C := RX5) (T := TX5) (N := 5) hx hb hts jX5_goForCopy_X5 hown hKw hP 0 cw_lt rfl 2 (by decide) (hts (.fieldLink RX5 18 "LendThreads" "shelf" "LLendThreads$Shelf;") (by decide +kernel)) (fun _ h9 => h9) rfl dX5_goForCopy_34 ?_
      refine lv_iload_n hx hb dX5_goForCopy_37 rfl (lv_at hl 2 rfl) ?_
      refine lv_aload_n hx hb dX5_goForCopy_38 rfl (lv_at hl 1 rfl) ?_
      refine va_getN (D := (dC, dI)) (ci := 4) (v := .int (M w 0)) (C := RX4) (T := TX4) (N := 12) hx hb hts jX5_goForCopy_X4 hown hKw hP w (cw_work (wok.lt hwk) (wok.k hwk)) rfl 0 (by decide) (va_Nw.use rfl (hKK.2.2 (.fieldLinkNest RX5 49 RX4 "number" "I" RX5) (by decide +kernel))) (fun _ h9 => h9) rfl dX5_goForCopy_39 ?_
      obtain ⟨q_9, hq_9, h⟩ := bi_some h
      refine va_callv (va_runV (As := [.int p2, .int (M w 0)]) (rest := []) ⟨hx, hb, hml, hown, hts⟩ (k_X3_take l dC dI cI c9 ad hI M p2 (M w 0) q_9 hq_9) (cwV 2 hts gX5_goForCopy_X3_take rfl rfl rfl (by decide +kernel) ⟨Nat.le_of_ble_eq_true rfl, Nat.le_of_ble_eq_true rfl⟩) (gP_preV hKK hKw hP (va_recv hKw hP (ci := 3) (q0 := 2) rfl cw_shelf)) rfl rfl hl.1 rfl (lv_room (Nat.le_of_ble_eq_true rfl)) dX5_goForCopy_42 ⟨Nat.zero_le _, Nat.zero_le _⟩) hS (fun q _ h => h) (fun q h => h) (fun M_11 t H locs ht hvm hw hP hz1 hk1 hS => ?_)
      replace hw := hw.symm
      subst hw
      rw [ht] at hP
      have hD := cwl_D hI (enc cI c9 ad q_9)
      refine lv_iconst (v := 1) hx hb dX5_goForCopy_45 (by decide) ?_
      replace h := Option.some.inj h
      subst h
      exact W.iret (v := 1) hx hb hr (fun t ht hW => ⟨⟨_, _, rfl, ⟨rfl, rfl⟩, (show va_P (dC, dI) vwCl (cW cI c9 ad q_9) t.heap by rw [ht]; exact hP)⟩, hS.F ht⟩) hS.2.2 dX5_goForCopy_46
  · rw [if_pos c_2] at h
    refine lv_iconst (v := 1) hx hb dX5_goForCopy_16 (by decide) ?_
    replace h := Option.some.inj h
    subst h
    exact W.iret (v := 1) hx hb hr (fun t ht hW => ⟨⟨_, _, rfl, ⟨rfl, rfl⟩, (show va_P (dC, dI) vwCl (cW cI c9 ad M) t.heap by rw [ht]; exact hP)⟩, hS.F ht⟩) hS.2.2 dX5_goForCopy_17
theorem jX5_goForNext_X4 : ∀ w ∈ u_ws RX4 TX4 12, w ∈ wsX5_goForNext := by decide +kernel
def F_X5_goForNext (M : Mem) (w : Nat) : Option (Int32 × Mem) :=
  bi (F_X2_item M (w + 1) (M w 6) (M w 7)) fun q_1 => bi (F_X5_isCopy M q_1) fun q_3 => (if q_3 = 0 then bi (F_X5_goForMessage M w (q_1 - 10)) fun q_6 => (if q_6.1 = 1 then bm (up2 q_6.2 w 7 ((q_6.2 w 7) + 1)) fun M_10 => some (q_6.1, M_10) else some (q_6.1, q_6.2)) else bi (F_X5_goForCopy M w q_1) fun q_11 => (if q_11.1 = 1 then bm (up2 q_11.2 w 7 ((q_11.2 w 7) + 1)) fun M_15 => some (q_11.1, M_15) else some (q_11.1, q_11.2)))
set_option maxHeartbeats 4000000 in
set_option maxRecDepth 100000 in
theorem k_X5_goForNext (l : Launch) (dC : Nat → ClassId) (dI : Nat → Nat → Nat) (cI c9 : ClassId) (ad : Nat → Nat) (hI : Inj 100 ad) (M : Mem) (w : Nat) (hwk : wok w) (q : Int32 × Mem) (h : F_X5_goForNext M w = some q) : Met l yX5_goForNext wsX5_goForNext ({ frames := 5, cells := 0, slots := 0, locals := 113 }) (gP dC dI cI c9 ad M [.ref (ad 0), .ref (ad w)]) (va_Qi (fun x M' => x = q.1 ∧ M' = q.2) (fun M' t => va_P (dC, dI) vwCl (cW cI c9 ad M') t.heap) (Ac 100 ad)) 0 0 (Ac 100 ad) := by
  refine Met.ofW (cc := cX5_goForNext) (maxL := 4) (ret := (some .int)) (by decide) rfl ?_
  intro p e s m args below meth c s₁ B hml hv
  obtain ⟨rfl, hP, hKK, hKw⟩ := hv
  have hx := B.exec
  have hb := B.bytes
  have hr := B.returns
  have hts := atoms_spec (ws := wsX5_goForNext) B.pre
  have hown : s.vm.findClass RX5 = some m.cls := findClass_of_methodNamed B.named
  have hlocks := B.notSynchronized
  have hD := cwl_D hI (enc cI c9 ad M)
  have hS : va_S (Ac 100 ad) s.heap s.heap [] := va_S.rf
  have hl := lv_entry ([.ref (ad 0), .ref (ad w)]) (n := 4) (Nat.le_of_ble_eq_true rfl)
  rw [lg_entry_eq]
  generalize (lg_sl ([.ref (ad 0), .ref (ad w)]) ++ List.replicate (4 - (lg_sl ([.ref (ad 0), .ref (ad w)])).length) Slot.unset).toArray = ls at hl ⊢
  have hl : lv_has ls 4 [(0, .ref (ad 0)), (1, .ref (ad w))] := hl
  unfold F_X5_goForNext at h
  refine lv_aload_n hx hb dX5_goForNext_0 rfl (lv_at hl 1 rfl) ?_
  refine va_getN (D := (dC, dI)) (ci := 4) (v := .ref (ad (w + 1))) (C := RX4) (T := TX4) (N := 12) hx hb hts jX5_goForNext_X4 hown hKw hP w (cw_work (wok.lt hwk) (wok.k hwk)) rfl 1 (by decide) (va_Nw.use rfl (hKK.2.2 (.fieldLinkNest RX5 71 RX4 "wanted" "LLendThreads$Rows;" RX5) (by decide +kernel))) (fun _ h9 => h9) rfl dX5_goForNext_1 ?_
  refine lv_aload_n hx hb dX5_goForNext_4 rfl (lv_at hl 1 rfl) ?_
  refine va_getN (D := (dC, dI)) (ci := 4) (v := .int (M w 6)) (C := RX4) (T := TX4) (N := 12) hx hb hts jX5_goForNext_X4 hown hKw hP w (cw_work (wok.lt hwk) (wok.k hwk)) rfl 6 (by decide) (va_Nw.use rfl (hKK.2.2 (.fieldLinkNest RX5 115 RX4 "step" "I" RX5) (by decide +kernel))) (fun _ h9 => h9) rfl dX5_goForNext_5 ?_
  refine lv_aload_n hx hb dX5_goForNext_8 rfl (lv_at hl 1 rfl) ?_
  refine va_getN (D := (dC, dI)) (ci := 4) (v := .int (M w 7)) (C := RX4) (T := TX4) (N := 12) hx hb hts jX5_goForNext_X4 hown hKw hP w (cw_work (wok.lt hwk) (wok.k hwk)) rfl 7 (by decide) (va_Nw.use rfl (hKK.2.2 (.fieldLinkNest RX5 118 RX4 "got" "I" RX5) (by decide +kernel))) (fun _ h9 => h9) rfl dX5_goForNext_9 ?_
  obtain ⟨q_1, hq_1, h⟩ := bi_some h
  refine vp_callSi (va_Run.run (va_runV (As := [.int (M w 6), .int (M w 7)]) (rest := []) ⟨hx, hb, hml, hown, hts⟩ (k_X2_item l dC dI cI c9 ad hI M (w + 1) (wok.r1 hwk) (M w 6) (M w 7) q_1 hq_1) (cwV 2 hts gX5_goForNext_X2_item rfl rfl rfl (by decide +kernel) ⟨Nat.le_of_ble_eq_true rfl, Nat.le_of_ble_eq_true rfl⟩) (gP_preV hKK hKw hP (va_recv hKw hP (ci := 2) (q0 := (w + 1)) rfl (cw_rows (wok.r1 hwk).lt (wok.r1 hwk).k0))) rfl rfl hl.1 rfl (lv_room (Nat.le_of_ble_eq_true rfl)) dX5_goForNext_12 ⟨Nat.zero_le _, Nat.zero_le _⟩)) (fun r_2 hr_2 => ?_)
  replace hr_2 := hr_2.symm
  subst hr_2
  refine lv_istore_n (lv' := [(2, .int q_1), (0, .ref (ad 0)), (1, .ref (ad w))]) hx hb dX5_goForNext_15 rfl hl (by decide) rfl (fun ls hl => ?_)
  refine lv_iload_n hx hb dX5_goForNext_16 rfl (lv_at hl 0 rfl) ?_
  obtain ⟨q_3, hq_3, h⟩ := bi_some h
  refine vp_callSi (va_Run.run (va_runS (As := [.int q_1]) (rest := []) ⟨hx, hb, hml, hown, hts⟩ (k_X5_isCopy l dC dI cI c9 ad hI M q_1 q_3 hq_3) (va_cwS 1 hts gX5_goForNext_X5_isCopy rfl rfl rfl (by decide +kernel) ⟨Nat.le_of_ble_eq_true rfl, Nat.le_of_ble_eq_true rfl⟩) (gP_preS hKK hKw hP) rfl rfl hl.1 rfl (lv_room (Nat.le_of_ble_eq_true rfl)) dX5_goForNext_17 ⟨Nat.zero_le _, Nat.zero_le _⟩)) (fun r_4 hr_4 => ?_)
  replace hr_4 := hr_4.symm
  subst hr_4
  refine lv_if_eq (tgt := 32) hx hb dX5_goForNext_20 (by decide) (fun c_5 => ?_) (fun c_5 => ?_)
  · rw [if_pos c_5] at h
    refine lv_aload_n hx hb dX5_goForNext_32 rfl (lv_at hl 1 rfl) ?_
    refine lv_aload_n hx hb dX5_goForNext_33 rfl (lv_at hl 2 rfl) ?_
    refine lv_iload_n hx hb dX5_goForNext_34 rfl (lv_at hl 0 rfl) ?_
    refine lv_bipush (v := 10) hx hb dX5_goForNext_35 (by decide) ?_
    refine lv_isub hx hb dX5_goForNext_37 ?_
    obtain ⟨q_6, hq_6, h⟩ := bi_some h
    refine va_calli (va_runV (As := [.ref (ad w), .int (q_1 - 10)]) (rest := []) ⟨hx, hb, hml, hown, hts⟩ (k_X5_goForMessage l dC dI cI c9 ad hI M w hwk (q_1 - 10) q_6 hq_6) (cwV 2 hts gX5_goForNext_X5_goForMessage rfl rfl rfl (by decide +kernel) ⟨Nat.le_of_ble_eq_true rfl, Nat.le_of_ble_eq_true rfl⟩) (gP_preV hKK hKw hP (va_recv hKw hP (ci := 5) (q0 := 0) rfl cw_lt)) rfl rfl hl.1 rfl (lv_room (Nat.le_of_ble_eq_true rfl)) dX5_goForNext_38 ⟨Nat.zero_le _, Nat.zero_le _⟩) hS (fun q _ h => h) (fun q h => h) (fun r_7 M_8 t H locs ht hvm hw hP hz1 hk1 hS => ?_)
    obtain ⟨h1, h2⟩ := hw
    subst h1 h2
    rw [ht] at hP
    have hD := cwl_D hI (enc cI c9 ad q_6.2)
    refine lv_istore_n (lv' := [(3, .int q_6.1), (2, .int q_1), (0, .ref (ad 0)), (1, .ref (ad w))]) hx hb dX5_goForNext_41 rfl hl (by decide) rfl (fun ls hl => ?_)
    refine lv_iload_n hx hb dX5_goForNext_42 rfl (lv_at hl 0 rfl) ?_
    refine lv_iconst (v := 1) hx hb dX5_goForNext_43 (by decide) ?_
    refine lv_icmp_ne (tgt := 57) hx hb dX5_goForNext_44 (by decide) (fun c_9 => ?_) (fun c_9 => ?_)
    · rw [if_neg c_9] at h
      refine lv_iload_n hx hb dX5_goForNext_57 rfl (lv_at hl 0 rfl) ?_
      replace h := Option.some.inj h
      subst h
      exact W.iret (v := q_6.1) hx hb hr (fun t ht hW => ⟨⟨_, _, rfl, ⟨rfl, rfl⟩, (show va_P (dC, dI) vwCl (cW cI c9 ad q_6.2) t.heap by rw [ht]; exact hP)⟩, hS.F ht⟩) hS.2.2 dX5_goForNext_58
    · rw [if_pos c_9] at h
      refine lv_aload_n hx hb dX5_goForNext_47 rfl (lv_at hl 3 rfl) ?_
      refine lv_dup hx hb dX5_goForNext_48 rfl ?_
      refine va_getN (D := (dC, dI)) (ci := 4) (v := .int (q_6.2 w 7)) (C := RX4) (T := TX4) (N := 12) hx hb hts jX5_goForNext_X4 hown hKw hP w (cw_work (wok.lt hwk) (wok.k hwk)) rfl 7 (by decide) (va_Nw.use rfl (hKK.2.2 (.fieldLinkNest RX5 118 RX4 "got" "I" RX5) (by decide +kernel))) (fun _ h9 => h9) rfl dX5_goForNext_49 ?_
      refine lv_iconst (v := 1) hx hb dX5_goForNext_52 (by decide) ?_
      refine lv_iadd hx hb dX5_goForNext_53 ?_
      refine va_putN (D := (dC, dI)) (ci := 4) (v := .int ((q_6.2 w 7) + 1)) (ty := .int) (C := RX4) (T := TX4) (N := 12) hx hb hts jX5_goForNext_X4 tyX4 tyX4_ok nmX4 hown hKw hP hD hS w (cw_work (wok.lt hwk) (wok.k hwk)) rfl 7 (by decide) (va_Nw.use rfl (hKK.2.2 (.fieldLinkNest RX5 118 RX4 "got" "I" RX5) (by decide +kernel))) (fun _ h9 => h9) rfl (by decide +kernel) rfl rfl (Nat.le_of_ble_eq_true rfl) dX5_goForNext_54 (fun H locs hP _ hS => ?_)
      have hP : va_P (dC, dI) vwCl (cW cI c9 ad (up2 q_6.2 w 7 ((q_6.2 w 7) + 1))) H := by show va_P (dC, dI) vwCl (cwl 100 ad (enc cI c9 ad (up2 q_6.2 w 7 ((q_6.2 w 7) + 1)))) H; rw [← en_w7 (wok.k hwk), ← cwl_set (wok.lt hwk)]; exact hP
      have hD := cwl_D hI (enc cI c9 ad (up2 q_6.2 w 7 ((q_6.2 w 7) + 1)))
      generalize up2 q_6.2 w 7 ((q_6.2 w 7) + 1) = M_10 at hP hD h
      replace h := bm_e h
      try dsimp only at h
      refine lv_iload_n hx hb dX5_goForNext_57 rfl (lv_at hl 0 rfl) ?_
      replace h := Option.some.inj h
      subst h
      exact W.iret (v := q_6.1) hx hb hr (fun t ht hW => ⟨⟨_, _, rfl, ⟨rfl, rfl⟩, (show va_P (dC, dI) vwCl (cW cI c9 ad M_10) t.heap by rw [ht]; exact hP)⟩, hS.F ht⟩) hS.2.2 dX5_goForNext_58
  · rw [if_neg c_5] at h
    refine lv_aload_n hx hb dX5_goForNext_23 rfl (lv_at hl 1 rfl) ?_
    refine lv_aload_n hx hb dX5_goForNext_24 rfl (lv_at hl 2 rfl) ?_
    refine lv_iload_n hx hb dX5_goForNext_25 rfl (lv_at hl 0 rfl) ?_
    obtain ⟨q_11, hq_11, h⟩ := bi_some h
    refine va_calli (va_runV (As := [.ref (ad w), .int q_1]) (rest := []) ⟨hx, hb, hml, hown, hts⟩ (k_X5_goForCopy l dC dI cI c9 ad hI M w hwk q_1 q_11 hq_11) (cwV 2 hts gX5_goForNext_X5_goForCopy rfl rfl rfl (by decide +kernel) ⟨Nat.le_of_ble_eq_true rfl, Nat.le_of_ble_eq_true rfl⟩) (gP_preV hKK hKw hP (va_recv hKw hP (ci := 5) (q0 := 0) rfl cw_lt)) rfl rfl hl.1 rfl (lv_room (Nat.le_of_ble_eq_true rfl)) dX5_goForNext_26 ⟨Nat.zero_le _, Nat.zero_le _⟩) hS (fun q _ h => h) (fun q h => h) (fun r_12 M_13 t H locs ht hvm hw hP hz1 hk1 hS => ?_)
    obtain ⟨h1, h2⟩ := hw
    subst h1 h2
    rw [ht] at hP
    have hD := cwl_D hI (enc cI c9 ad q_11.2)
    refine lv_goto (tgt := 41) hx hb dX5_goForNext_29 (by decide) ?_
    refine lv_istore_n (lv' := [(3, .int q_11.1), (2, .int q_1), (0, .ref (ad 0)), (1, .ref (ad w))]) hx hb dX5_goForNext_41 rfl hl (by decide) rfl (fun ls hl => ?_)
    refine lv_iload_n hx hb dX5_goForNext_42 rfl (lv_at hl 0 rfl) ?_
    refine lv_iconst (v := 1) hx hb dX5_goForNext_43 (by decide) ?_
    refine lv_icmp_ne (tgt := 57) hx hb dX5_goForNext_44 (by decide) (fun c_14 => ?_) (fun c_14 => ?_)
    · rw [if_neg c_14] at h
      refine lv_iload_n hx hb dX5_goForNext_57 rfl (lv_at hl 0 rfl) ?_
      replace h := Option.some.inj h
      subst h
      exact W.iret (v := q_11.1) hx hb hr (fun t ht hW => ⟨⟨_, _, rfl, ⟨rfl, rfl⟩, (show va_P (dC, dI) vwCl (cW cI c9 ad q_11.2) t.heap by rw [ht]; exact hP)⟩, hS.F ht⟩) hS.2.2 dX5_goForNext_58
    · rw [if_pos c_14] at h
      refine lv_aload_n hx hb dX5_goForNext_47 rfl (lv_at hl 3 rfl) ?_
      refine lv_dup hx hb dX5_goForNext_48 rfl ?_
      refine va_getN (D := (dC, dI)) (ci := 4) (v := .int (q_11.2 w 7)) (C := RX4) (T := TX4) (N := 12) hx hb hts jX5_goForNext_X4 hown hKw hP w (cw_work (wok.lt hwk) (wok.k hwk)) rfl 7 (by decide) (va_Nw.use rfl (hKK.2.2 (.fieldLinkNest RX5 118 RX4 "got" "I" RX5) (by decide +kernel))) (fun _ h9 => h9) rfl dX5_goForNext_49 ?_
      refine lv_iconst (v := 1) hx hb dX5_goForNext_52 (by decide) ?_
      refine lv_iadd hx hb dX5_goForNext_53 ?_
      refine va_putN (D := (dC, dI)) (ci := 4) (v := .int ((q_11.2 w 7) + 1)) (ty := .int) (C := RX4) (T := TX4) (N := 12) hx hb hts jX5_goForNext_X4 tyX4 tyX4_ok nmX4 hown hKw hP hD hS w (cw_work (wok.lt hwk) (wok.k hwk)) rfl 7 (by decide) (va_Nw.use rfl (hKK.2.2 (.fieldLinkNest RX5 118 RX4 "got" "I" RX5) (by decide +kernel))) (fun _ h9 => h9) rfl (by decide +kernel) rfl rfl (Nat.le_of_ble_eq_true rfl) dX5_goForNext_54 (fun H locs hP _ hS => ?_)
      have hP : va_P (dC, dI) vwCl (cW cI c9 ad (up2 q_11.2 w 7 ((q_11.2 w 7) + 1))) H := by show va_P (dC, dI) vwCl (cwl 100 ad (enc cI c9 ad (up2 q_11.2 w 7 ((q_11.2 w 7) + 1)))) H; rw [← en_w7 (wok.k hwk), ← cwl_set (wok.lt hwk)]; exact hP
      have hD := cwl_D hI (enc cI c9 ad (up2 q_11.2 w 7 ((q_11.2 w 7) + 1)))
      generalize up2 q_11.2 w 7 ((q_11.2 w 7) + 1) = M_15 at hP hD h
      replace h := bm_e h
      try dsimp only at h
      refine lv_iload_n hx hb dX5_goForNext_57 rfl (lv_at hl 0 rfl) ?_
      replace h := Option.some.inj h
      subst h
      exact W.iret (v := q_11.1) hx hb hr (fun t ht hW => ⟨⟨_, _, rfl, ⟨rfl, rfl⟩, (show va_P (dC, dI) vwCl (cW cI c9 ad M_15) t.heap by rw [ht]; exact hP)⟩, hS.F ht⟩) hS.2.2 dX5_goForNext_58
theorem jX5_actOrFail_X4 : ∀ w ∈ u_ws RX4 TX4 12, w ∈ wsX5_actOrFail := by decide +kernel
theorem jX5_actOrFail_X5 : ∀ w ∈ u_ws RX5 TX5 5, w ∈ wsX5_actOrFail := by decide +kernel
def F_X5_actOrFail (M : Mem) (w : Nat) : Option (Int32 × Mem) :=
  (if (M w 6) = (M w 4) then bi (F_X5_undo M w 2) fun q_18 => some (6, q_18) else bi (F_X3_change M (M w 0) (M w 6)) fun q_2 => bi (F_X0_write q_2 (q_2 w 0) (q_2 w 6)) fun q_5 => bi (F_X5_sendAll q_5 w) fun q_8 => bm (up2 q_8 w 6 ((q_8 w 6) + 1)) fun M_11 => bm (up2 M_11 w 7 0) fun M_12 => (if (M_12 w 6) < (M_12 w 3) then some (2, M_12) else bm (up2 M_12 w 5 1) fun M_14 => bi (F_X3_release M_14 (M_14 w 0)) fun q_15 => some (2, q_15)))
set_option maxHeartbeats 4000000 in
set_option maxRecDepth 100000 in
theorem k_X5_actOrFail (l : Launch) (dC : Nat → ClassId) (dI : Nat → Nat → Nat) (cI c9 : ClassId) (ad : Nat → Nat) (hI : Inj 100 ad) (M : Mem) (w : Nat) (hwk : wok w) (q : Int32 × Mem) (h : F_X5_actOrFail M w = some q) : Met l yX5_actOrFail wsX5_actOrFail ({ frames := 5, cells := 0, slots := 0, locals := 113 }) (gP dC dI cI c9 ad M [.ref (ad 0), .ref (ad w)]) (va_Qi (fun x M' => x = q.1 ∧ M' = q.2) (fun M' t => va_P (dC, dI) vwCl (cW cI c9 ad M') t.heap) (Ac 100 ad)) 0 0 (Ac 100 ad) := by
  refine Met.ofW (cc := cX5_actOrFail) (maxL := 2) (ret := (some .int)) (by decide) rfl ?_
  intro p e s m args below meth c s₁ B hml hv
  obtain ⟨rfl, hP, hKK, hKw⟩ := hv
  have hx := B.exec
  have hb := B.bytes
  have hr := B.returns
  have hts := atoms_spec (ws := wsX5_actOrFail) B.pre
  have hown : s.vm.findClass RX5 = some m.cls := findClass_of_methodNamed B.named
  have hlocks := B.notSynchronized
  have hD := cwl_D hI (enc cI c9 ad M)
  have hS : va_S (Ac 100 ad) s.heap s.heap [] := va_S.rf
  have hl := lv_entry ([.ref (ad 0), .ref (ad w)]) (n := 2) (Nat.le_of_ble_eq_true rfl)
  rw [lg_entry_eq]
  generalize (lg_sl ([.ref (ad 0), .ref (ad w)]) ++ List.replicate (2 - (lg_sl ([.ref (ad 0), .ref (ad w)])).length) Slot.unset).toArray = ls at hl ⊢
  have hl : lv_has ls 2 [(0, .ref (ad 0)), (1, .ref (ad w))] := hl
  unfold F_X5_actOrFail at h
  refine lv_aload_n hx hb dX5_actOrFail_0 rfl (lv_at hl 1 rfl) ?_
  refine va_getN (D := (dC, dI)) (ci := 4) (v := .int (M w 6)) (C := RX4) (T := TX4) (N := 12) hx hb hts jX5_actOrFail_X4 hown hKw hP w (cw_work (wok.lt hwk) (wok.k hwk)) rfl 6 (by decide) (va_Nw.use rfl (hKK.2.2 (.fieldLinkNest RX5 115 RX4 "step" "I" RX5) (by decide +kernel))) (fun _ h9 => h9) rfl dX5_actOrFail_1 ?_
  refine lv_aload_n hx hb dX5_actOrFail_4 rfl (lv_at hl 1 rfl) ?_
  refine va_getN (D := (dC, dI)) (ci := 4) (v := .int (M w 4)) (C := RX4) (T := TX4) (N := 12) hx hb hts jX5_actOrFail_X4 hown hKw hP w (cw_work (wok.lt hwk) (wok.k hwk)) rfl 4 (by decide) (va_Nw.use rfl (hKK.2.2 (.fieldLinkNest RX5 46 RX4 "failsAt" "I" RX5) (by decide +kernel))) (fun _ h9 => h9) rfl dX5_actOrFail_5 ?_
  refine lv_icmp_ne (tgt := 20) hx hb dX5_actOrFail_8 (by decide) (fun c_1 => ?_) (fun c_1 => ?_)
  · rw [if_neg c_1] at h
    refine lv_aload_n hx hb dX5_actOrFail_20 rfl (lv_at hl 0 rfl) ?_
    refine va_get (D := (dC, dI)) (ci := 5) (v := .ref (ad 2)) (C := RX5) (T := TX5) (N := 5) hx hb hts jX5_actOrFail_X5 hown hKw hP 0 cw_lt rfl 2 (by decide) (hts (.fieldLink RX5 18 "LendThreads" "shelf" "LLendThreads$Shelf;") (by decide +kernel)) (fun _ h9 => h9) rfl dX5_actOrFail_21 ?_
    refine lv_aload_n hx hb dX5_actOrFail_24 rfl (lv_at hl 1 rfl) ?_
    refine va_getN (D := (dC, dI)) (ci := 4) (v := .int (M w 0)) (C := RX4) (T := TX4) (N := 12) hx hb hts jX5_actOrFail_X4 hown hKw hP w (cw_work (wok.lt hwk) (wok.k hwk)) rfl 0 (by decide) (va_Nw.use rfl (hKK.2.2 (.fieldLinkNest RX5 49 RX4 "number" "I" RX5) (by decide +kernel))) (fun _ h9 => h9) rfl dX5_actOrFail_25 ?_
    refine lv_aload_n hx hb dX5_actOrFail_28 rfl (lv_at hl 1 rfl) ?_
    refine va_getN (D := (dC, dI)) (ci := 4) (v := .int (M w 6)) (C := RX4) (T := TX4) (N := 12) hx hb hts jX5_actOrFail_X4 hown hKw hP w (cw_work (wok.lt hwk) (wok.k hwk)) rfl 6 (by decide) (va_Nw.use rfl (hKK.2.2 (.fieldLinkNest RX5 115 RX4 "step" "I" RX5) (by decide +kernel))) (fun _ h9 => h9) rfl dX5_actOrFail_29 ?_
    obtain ⟨q_2, hq_2, h⟩ := bi_some h
    refine va_callv (va_runV (As := [.int (M w 0), .int (M w 6)]) (rest := []) ⟨hx, hb, hml, hown, hts⟩ (k_X3_change l dC dI cI c9 ad hI M (M w 0) (M w 6) q_2 hq_2) (cwV 2 hts gX5_actOrFail_X3_change rfl rfl rfl (by decide +kernel) ⟨Nat.le_of_ble_eq_true rfl, Nat.le_of_ble_eq_true rfl⟩) (gP_preV hKK hKw hP (va_recv hKw hP (ci := 3) (q0 := 2) rfl cw_shelf)) rfl rfl hl.1 rfl (lv_room (Nat.le_of_ble_eq_true rfl)) dX5_actOrFail_32 ⟨Nat.zero_le _, Nat.zero_le _⟩) hS (fun q _ h => h) (fun q h => h) (fun M_4 t H locs ht hvm hw hP hz1 hk1 hS => ?_)
    replace hw := hw.symm
    subst hw
    rw [ht] at hP
    have hD := cwl_D hI (enc cI c9 ad q_2)
    refine lv_aload_n hx hb dX5_actOrFail_35 rfl (lv_at hl 0 rfl) ?_
    refine va_get (D := (dC, dI)) (ci := 5) (v := .ref (ad 12)) (C := RX5) (T := TX5) (N := 5) hx hb hts jX5_actOrFail_X5 hown hKw hP 0 cw_lt rfl 4 (by decide) (hts (.fieldLink RX5 32 "LendThreads" "diary" "LLendThreads$Diary;") (by decide +kernel)) (fun _ h9 => h9) rfl dX5_actOrFail_36 ?_
    refine lv_aload_n hx hb dX5_actOrFail_39 rfl (lv_at hl 1 rfl) ?_
    refine va_getN (D := (dC, dI)) (ci := 4) (v := .int (q_2 w 0)) (C := RX4) (T := TX4) (N := 12) hx hb hts jX5_actOrFail_X4 hown hKw hP w (cw_work (wok.lt hwk) (wok.k hwk)) rfl 0 (by decide) (va_Nw.use rfl (hKK.2.2 (.fieldLinkNest RX5 49 RX4 "number" "I" RX5) (by decide +kernel))) (fun _ h9 => h9) rfl dX5_actOrFail_40 ?_
    refine lv_aload_n hx hb dX5_actOrFail_43 rfl (lv_at hl 1 rfl) ?_
    refine va_getN (D := (dC, dI)) (ci := 4) (v := .int (q_2 w 6)) (C := RX4) (T := TX4) (N := 12) hx hb hts jX5_actOrFail_X4 hown hKw hP w (cw_work (wok.lt hwk) (wok.k hwk)) rfl 6 (by decide) (va_Nw.use rfl (hKK.2.2 (.fieldLinkNest RX5 115 RX4 "step" "I" RX5) (by decide +kernel))) (fun _ h9 => h9) rfl dX5_actOrFail_44 ?_
    obtain ⟨q_5, hq_5, h⟩ := bi_some h
    refine va_callv (va_runV (As := [.int (q_2 w 0), .int (q_2 w 6)]) (rest := []) ⟨hx, hb, hml, hown, hts⟩ (k_X0_write l dC dI cI c9 ad hI q_2 (q_2 w 0) (q_2 w 6) q_5 hq_5) (cwV 2 hts gX5_actOrFail_X0_write rfl rfl rfl (by decide +kernel) ⟨Nat.le_of_ble_eq_true rfl, Nat.le_of_ble_eq_true rfl⟩) (gP_preV hKK hKw hP (va_recv hKw hP (ci := 0) (q0 := 12) rfl cw_diary)) rfl rfl hl.1 rfl (lv_room (Nat.le_of_ble_eq_true rfl)) dX5_actOrFail_47 ⟨Nat.zero_le _, Nat.zero_le _⟩) hS (fun q _ h => h) (fun q h => h) (fun M_7 t H locs ht hvm hw hP hz1 hk1 hS => ?_)
    replace hw := hw.symm
    subst hw
    rw [ht] at hP
    have hD := cwl_D hI (enc cI c9 ad q_5)
    refine lv_aload_n hx hb dX5_actOrFail_50 rfl (lv_at hl 0 rfl) ?_
    refine lv_aload_n hx hb dX5_actOrFail_51 rfl (lv_at hl 1 rfl) ?_
    obtain ⟨q_8, hq_8, h⟩ := bi_some h
    refine va_callv (va_runV (As := [.ref (ad w)]) (rest := []) ⟨hx, hb, hml, hown, hts⟩ (k_X5_sendAll l dC dI cI c9 ad hI q_5 w hwk q_8 hq_8) (cwV 1 hts gX5_actOrFail_X5_sendAll rfl rfl rfl (by decide +kernel) ⟨Nat.le_of_ble_eq_true rfl, Nat.le_of_ble_eq_true rfl⟩) (gP_preV hKK hKw hP (va_recv hKw hP (ci := 5) (q0 := 0) rfl cw_lt)) rfl rfl hl.1 rfl (lv_room (Nat.le_of_ble_eq_true rfl)) dX5_actOrFail_52 ⟨Nat.zero_le _, Nat.zero_le _⟩) hS (fun q _ h => h) (fun q h => h) (fun M_10 t H locs ht hvm hw hP hz1 hk1 hS => ?_)
    replace hw := hw.symm
    subst hw
    rw [ht] at hP
    have hD := cwl_D hI (enc cI c9 ad q_8)
    refine lv_aload_n hx hb dX5_actOrFail_55 rfl (lv_at hl 1 rfl) ?_
    refine lv_dup hx hb dX5_actOrFail_56 rfl ?_
    refine va_getN (D := (dC, dI)) (ci := 4) (v := .int (q_8 w 6)) (C := RX4) (T := TX4) (N := 12) hx hb hts jX5_actOrFail_X4 hown hKw hP w (cw_work (wok.lt hwk) (wok.k hwk)) rfl 6 (by decide) (va_Nw.use rfl (hKK.2.2 (.fieldLinkNest RX5 115 RX4 "step" "I" RX5) (by decide +kernel))) (fun _ h9 => h9) rfl dX5_actOrFail_57 ?_
    refine lv_iconst (v := 1) hx hb dX5_actOrFail_60 (by decide) ?_
    refine lv_iadd hx hb dX5_actOrFail_61 ?_
    refine va_putN (D := (dC, dI)) (ci := 4) (v := .int ((q_8 w 6) + 1)) (ty := .int) (C := RX4) (T := TX4) (N := 12) hx hb hts jX5_actOrFail_X4 tyX4 tyX4_ok nmX4 hown hKw hP hD hS w (cw_work (wok.lt hwk) (wok.k hwk)) rfl 6 (by decide) (va_Nw.use rfl (hKK.2.2 (.fieldLinkNest RX5 115 RX4 "step" "I" RX5) (by decide +kernel))) (fun _ h9 => h9) rfl (by decide +kernel) rfl rfl (Nat.le_of_ble_eq_true rfl) dX5_actOrFail_62 (fun H locs hP _ hS => ?_)
    have hP : va_P (dC, dI) vwCl (cW cI c9 ad (up2 q_8 w 6 ((q_8 w 6) + 1))) H := by show va_P (dC, dI) vwCl (cwl 100 ad (enc cI c9 ad (up2 q_8 w 6 ((q_8 w 6) + 1)))) H; rw [← en_w6 (wok.k hwk), ← cwl_set (wok.lt hwk)]; exact hP
    have hD := cwl_D hI (enc cI c9 ad (up2 q_8 w 6 ((q_8 w 6) + 1)))
    generalize up2 q_8 w 6 ((q_8 w 6) + 1) = M_11 at hP hD h
    replace h := bm_e h
    try dsimp only at h
    refine lv_aload_n hx hb dX5_actOrFail_65 rfl (lv_at hl 1 rfl) ?_
    refine lv_iconst (v := 0) hx hb dX5_actOrFail_66 (by decide) ?_
    refine va_putN (D := (dC, dI)) (ci := 4) (v := .int 0) (ty := .int) (C := RX4) (T := TX4) (N := 12) hx hb hts jX5_actOrFail_X4 tyX4 tyX4_ok nmX4 hown hKw hP hD hS w (cw_work (wok.lt hwk) (wok.k hwk)) rfl 7 (by decide) (va_Nw.use rfl (hKK.2.2 (.fieldLinkNest RX5 118 RX4 "got" "I" RX5) (by decide +kernel))) (fun _ h9 => h9) rfl (by decide +kernel) rfl rfl (Nat.le_of_ble_eq_true rfl) dX5_actOrFail_67 (fun H locs hP _ hS => ?_)
    have hP : va_P (dC, dI) vwCl (cW cI c9 ad (up2 M_11 w 7 0)) H := by show va_P (dC, dI) vwCl (cwl 100 ad (enc cI c9 ad (up2 M_11 w 7 0))) H; rw [← en_w7 (wok.k hwk), ← cwl_set (wok.lt hwk)]; exact hP
    have hD := cwl_D hI (enc cI c9 ad (up2 M_11 w 7 0))
    generalize up2 M_11 w 7 0 = M_12 at hP hD h
    replace h := bm_e h
    try dsimp only at h
    refine lv_aload_n hx hb dX5_actOrFail_70 rfl (lv_at hl 1 rfl) ?_
    refine va_getN (D := (dC, dI)) (ci := 4) (v := .int (M_12 w 6)) (C := RX4) (T := TX4) (N := 12) hx hb hts jX5_actOrFail_X4 hown hKw hP w (cw_work (wok.lt hwk) (wok.k hwk)) rfl 6 (by decide) (va_Nw.use rfl (hKK.2.2 (.fieldLinkNest RX5 115 RX4 "step" "I" RX5) (by decide +kernel))) (fun _ h9 => h9) rfl dX5_actOrFail_71 ?_
    refine lv_aload_n hx hb dX5_actOrFail_74 rfl (lv_at hl 1 rfl) ?_
    refine va_getN (D := (dC, dI)) (ci := 4) (v := .int (M_12 w 3)) (C := RX4) (T := TX4) (N := 12) hx hb hts jX5_actOrFail_X4 hown hKw hP w (cw_work (wok.lt hwk) (wok.k hwk)) rfl 3 (by decide) (va_Nw.use rfl (hKK.2.2 (.fieldLinkNest RX5 43 RX4 "steps" "I" RX5) (by decide +kernel))) (fun _ h9 => h9) rfl dX5_actOrFail_75 ?_
    refine lv_icmp_lt (tgt := 97) hx hb dX5_actOrFail_78 (by decide) (fun c_13 => ?_) (fun c_13 => ?_)
    · rw [if_pos c_13] at h
      refine lv_iconst (v := 2) hx hb dX5_actOrFail_97 (by decide) ?_
      replace h := Option.some.inj h
      subst h
      exact W.iret (v := 2) hx hb hr (fun t ht hW => ⟨⟨_, _, rfl, ⟨rfl, rfl⟩, (show va_P (dC, dI) vwCl (cW cI c9 ad M_12) t.heap by rw [ht]; exact hP)⟩, hS.F ht⟩) hS.2.2 dX5_actOrFail_98
    · rw [if_neg c_13] at h
      refine lv_aload_n hx hb dX5_actOrFail_81 rfl (lv_at hl 1 rfl) ?_
      refine lv_iconst (v := 1) hx hb dX5_actOrFail_82 (by decide) ?_
      refine va_putN (D := (dC, dI)) (ci := 4) (v := .int 1) (ty := .int) (C := RX4) (T := TX4) (N := 12) hx hb hts jX5_actOrFail_X4 tyX4 tyX4_ok nmX4 hown hKw hP hD hS w (cw_work (wok.lt hwk) (wok.k hwk)) rfl 5 (by decide) (va_Nw.use rfl (hKK.2.2 (.fieldLinkNest RX5 103 RX4 "state" "I" RX5) (by decide +kernel))) (fun _ h9 => h9) rfl (by decide +kernel) rfl rfl (Nat.le_of_ble_eq_true rfl) dX5_actOrFail_83 (fun H locs hP _ hS => ?_)
      have hP : va_P (dC, dI) vwCl (cW cI c9 ad (up2 M_12 w 5 1)) H := by show va_P (dC, dI) vwCl (cwl 100 ad (enc cI c9 ad (up2 M_12 w 5 1))) H; rw [← en_w5 (wok.k hwk), ← cwl_set (wok.lt hwk)]; exact hP
      have hD := cwl_D hI (enc cI c9 ad (up2 M_12 w 5 1))
      generalize up2 M_12 w 5 1 = M_14 at hP hD h
      replace h := bm_e h
      try dsimp only at h
      refine lv_aload_n hx hb dX5_actOrFail_86 rfl (lv_at hl 0 rfl) ?_
      refine va_get (D := (dC, dI)) (ci := 5) (v := .ref (ad 2)) (C := RX5) (T := TX5) (N := 5) hx hb hts jX5_actOrFail_X5 hown hKw hP 0 cw_lt rfl 2 (by decide) (hts (.fieldLink RX5 18 "LendThreads" "shelf" "LLendThreads$Shelf;") (by decide +kernel)) (fun _ h9 => h9) rfl dX5_actOrFail_87 ?_
      refine lv_aload_n hx hb dX5_actOrFail_90 rfl (lv_at hl 1 rfl) ?_
      refine va_getN (D := (dC, dI)) (ci := 4) (v := .int (M_14 w 0)) (C := RX4) (T := TX4) (N := 12) hx hb hts jX5_actOrFail_X4 hown hKw hP w (cw_work (wok.lt hwk) (wok.k hwk)) rfl 0 (by decide) (va_Nw.use rfl (hKK.2.2 (.fieldLinkNest RX5 49 RX4 "number" "I" RX5) (by decide +kernel))) (fun _ h9 => h9) rfl dX5_actOrFail_91 ?_
      obtain ⟨q_15, hq_15, h⟩ := bi_some h
      refine va_callv (va_runV (As := [.int (M_14 w 0)]) (rest := []) ⟨hx, hb, hml, hown, hts⟩ (k_X3_release l dC dI cI c9 ad hI M_14 (M_14 w 0) q_15 hq_15) (cwV 1 hts gX5_actOrFail_X3_release rfl rfl rfl (by decide +kernel) ⟨Nat.le_of_ble_eq_true rfl, Nat.le_of_ble_eq_true rfl⟩) (gP_preV hKK hKw hP (va_recv hKw hP (ci := 3) (q0 := 2) rfl cw_shelf)) rfl rfl hl.1 rfl (lv_room (Nat.le_of_ble_eq_true rfl)) dX5_actOrFail_94 ⟨Nat.zero_le _, Nat.zero_le _⟩) hS (fun q _ h => h) (fun q h => h) (fun M_17 t H locs ht hvm hw hP hz1 hk1 hS => ?_)
      replace hw := hw.symm
      subst hw
      rw [ht] at hP
      have hD := cwl_D hI (enc cI c9 ad q_15)
      refine lv_iconst (v := 2) hx hb dX5_actOrFail_97 (by decide) ?_
      replace h := Option.some.inj h
      subst h
      exact W.iret (v := 2) hx hb hr (fun t ht hW => ⟨⟨_, _, rfl, ⟨rfl, rfl⟩, (show va_P (dC, dI) vwCl (cW cI c9 ad q_15) t.heap by rw [ht]; exact hP)⟩, hS.F ht⟩) hS.2.2 dX5_actOrFail_98
  · rw [if_pos c_1] at h
    refine lv_aload_n hx hb dX5_actOrFail_11 rfl (lv_at hl 0 rfl) ?_
    refine lv_aload_n hx hb dX5_actOrFail_12 rfl (lv_at hl 1 rfl) ?_
    refine lv_iconst (v := 2) hx hb dX5_actOrFail_13 (by decide) ?_
    obtain ⟨q_18, hq_18, h⟩ := bi_some h
    refine va_callv (va_runV (As := [.ref (ad w), .int 2]) (rest := []) ⟨hx, hb, hml, hown, hts⟩ (k_X5_undo l dC dI cI c9 ad hI M w hwk 2 q_18 hq_18) (cwV 2 hts gX5_actOrFail_X5_undo rfl rfl rfl (by decide +kernel) ⟨Nat.le_of_ble_eq_true rfl, Nat.le_of_ble_eq_true rfl⟩) (gP_preV hKK hKw hP (va_recv hKw hP (ci := 5) (q0 := 0) rfl cw_lt)) rfl rfl hl.1 rfl (lv_room (Nat.le_of_ble_eq_true rfl)) dX5_actOrFail_14 ⟨Nat.zero_le _, Nat.zero_le _⟩) hS (fun q _ h => h) (fun q h => h) (fun M_20 t H locs ht hvm hw hP hz1 hk1 hS => ?_)
    replace hw := hw.symm
    subst hw
    rw [ht] at hP
    have hD := cwl_D hI (enc cI c9 ad q_18)
    refine lv_bipush (v := 6) hx hb dX5_actOrFail_17 (by decide) ?_
    replace h := Option.some.inj h
    subst h
    exact W.iret (v := 6) hx hb hr (fun t ht hW => ⟨⟨_, _, rfl, ⟨rfl, rfl⟩, (show va_P (dC, dI) vwCl (cW cI c9 ad q_18) t.heap by rw [ht]; exact hP)⟩, hS.F ht⟩) hS.2.2 dX5_actOrFail_19
theorem jX5_takeTurn_X4 : ∀ w ∈ u_ws RX4 TX4 12, w ∈ wsX5_takeTurn := by decide +kernel
def F_X5_takeTurn (M : Mem) (w : Nat) : Option (Int32 × Mem) :=
  (if (M w 5) = 0 then bm (up2 M w 10 1) fun M_2 => bi (F_X4_gotAll M_2 w) fun q_3 => (if q_3 = 0 then bi (F_X5_goForNext M_2 w) fun q_6 => bm (up2 q_6.2 w 11 q_6.1) fun M_9 => some ((M_9 w 11), M_9) else bi (F_X5_actOrFail M_2 w) fun q_10 => bm (up2 q_10.2 w 11 q_10.1) fun M_13 => some ((M_13 w 11), M_13)) else some (0, M))
set_option maxHeartbeats 4000000 in
set_option maxRecDepth 100000 in
theorem k_X5_takeTurn (l : Launch) (dC : Nat → ClassId) (dI : Nat → Nat → Nat) (cI c9 : ClassId) (ad : Nat → Nat) (hI : Inj 100 ad) (M : Mem) (w : Nat) (hwk : wok w) (q : Int32 × Mem) (h : F_X5_takeTurn M w = some q) : Met l yX5_takeTurn wsX5_takeTurn ({ frames := 6, cells := 0, slots := 0, locals := 136 }) (gP dC dI cI c9 ad M [.ref (ad 0), .ref (ad w)]) (va_Qi (fun x M' => x = q.1 ∧ M' = q.2) (fun M' t => va_P (dC, dI) vwCl (cW cI c9 ad M') t.heap) (Ac 100 ad)) 0 0 (Ac 100 ad) := by
  refine Met.ofW (cc := cX5_takeTurn) (maxL := 2) (ret := (some .int)) (by decide) rfl ?_
  intro p e s m args below meth c s₁ B hml hv
  obtain ⟨rfl, hP, hKK, hKw⟩ := hv
  have hx := B.exec
  have hb := B.bytes
  have hr := B.returns
  have hts := atoms_spec (ws := wsX5_takeTurn) B.pre
  have hown : s.vm.findClass RX5 = some m.cls := findClass_of_methodNamed B.named
  have hlocks := B.notSynchronized
  have hD := cwl_D hI (enc cI c9 ad M)
  have hS : va_S (Ac 100 ad) s.heap s.heap [] := va_S.rf
  have hl := lv_entry ([.ref (ad 0), .ref (ad w)]) (n := 2) (Nat.le_of_ble_eq_true rfl)
  rw [lg_entry_eq]
  generalize (lg_sl ([.ref (ad 0), .ref (ad w)]) ++ List.replicate (2 - (lg_sl ([.ref (ad 0), .ref (ad w)])).length) Slot.unset).toArray = ls at hl ⊢
  have hl : lv_has ls 2 [(0, .ref (ad 0)), (1, .ref (ad w))] := hl
  unfold F_X5_takeTurn at h
  refine lv_aload_n hx hb dX5_takeTurn_0 rfl (lv_at hl 1 rfl) ?_
  refine va_getN (D := (dC, dI)) (ci := 4) (v := .int (M w 5)) (C := RX4) (T := TX4) (N := 12) hx hb hts jX5_takeTurn_X4 hown hKw hP w (cw_work (wok.lt hwk) (wok.k hwk)) rfl 5 (by decide) (va_Nw.use rfl (hKK.2.2 (.fieldLinkNest RX5 103 RX4 "state" "I" RX5) (by decide +kernel))) (fun _ h9 => h9) rfl dX5_takeTurn_1 ?_
  refine lv_if_eq (tgt := 9) hx hb dX5_takeTurn_4 (by decide) (fun c_1 => ?_) (fun c_1 => ?_)
  · rw [if_pos c_1] at h
    refine lv_aload_n hx hb dX5_takeTurn_9 rfl (lv_at hl 1 rfl) ?_
    refine lv_iconst (v := 1) hx hb dX5_takeTurn_10 (by decide) ?_
    refine va_putN (D := (dC, dI)) (ci := 4) (v := .int 1) (ty := .boolean) (C := RX4) (T := TX4) (N := 12) hx hb hts jX5_takeTurn_X4 tyX4 tyX4_ok nmX4 hown hKw hP hD hS w (cw_work (wok.lt hwk) (wok.k hwk)) rfl 10 (by decide) (va_Nw.use rfl (hKK.2.2 (.fieldLinkNest RX5 67 RX4 "hadTurn" "Z" RX5) (by decide +kernel))) (fun _ h9 => h9) rfl (by decide +kernel) rfl rfl (Nat.le_of_ble_eq_true rfl) dX5_takeTurn_11 (fun H locs hP _ hS => ?_)
    have hP : va_P (dC, dI) vwCl (cW cI c9 ad (up2 M w 10 1)) H := by show va_P (dC, dI) vwCl (cwl 100 ad (enc cI c9 ad (up2 M w 10 1))) H; rw [← en_w10 (wok.k hwk), ← cwl_set (wok.lt hwk)]; exact hP
    have hD := cwl_D hI (enc cI c9 ad (up2 M w 10 1))
    generalize up2 M w 10 1 = M_2 at hP hD h
    replace h := bm_e h
    try dsimp only at h
    refine lv_aload_n hx hb dX5_takeTurn_14 rfl (lv_at hl 1 rfl) ?_
    refine lv_aload_n hx hb dX5_takeTurn_15 rfl (lv_at hl 1 rfl) ?_
    obtain ⟨q_3, hq_3, h⟩ := bi_some h
    refine vp_callSi (va_Run.run (va_runV (As := []) (rest := [.ref (ad w)]) ⟨hx, hb, hml, hown, hts⟩ (k_X4_gotAll l dC dI cI c9 ad hI M_2 w hwk q_3 hq_3) (cwV 0 hts gX5_takeTurn_X4_gotAll rfl rfl rfl (by decide +kernel) ⟨Nat.le_of_ble_eq_true rfl, Nat.le_of_ble_eq_true rfl⟩) (gP_preV hKK hKw hP (va_recv hKw hP (ci := 4) (q0 := w) rfl (cw_work (wok.lt hwk) (wok.k hwk)))) rfl rfl hl.1 rfl (lv_room (Nat.le_of_ble_eq_true rfl)) dX5_takeTurn_16 ⟨Nat.zero_le _, Nat.zero_le _⟩)) (fun r_4 hr_4 => ?_)
    replace hr_4 := hr_4.symm
    subst hr_4
    refine lv_if_eq (tgt := 30) hx hb dX5_takeTurn_19 (by decide) (fun c_5 => ?_) (fun c_5 => ?_)
    · rw [if_pos c_5] at h
      refine lv_aload_n hx hb dX5_takeTurn_30 rfl (lv_at hl 0 rfl) ?_
      refine lv_aload_n hx hb dX5_takeTurn_31 rfl (lv_at hl 1 rfl) ?_
      obtain ⟨q_6, hq_6, h⟩ := bi_some h
      refine va_calli (va_runV (As := [.ref (ad w)]) (rest := [.ref (ad w)]) ⟨hx, hb, hml, hown, hts⟩ (k_X5_goForNext l dC dI cI c9 ad hI M_2 w hwk q_6 hq_6) (cwV 1 hts gX5_takeTurn_X5_goForNext rfl rfl rfl (by decide +kernel) ⟨Nat.le_of_ble_eq_true rfl, Nat.le_of_ble_eq_true rfl⟩) (gP_preV hKK hKw hP (va_recv hKw hP (ci := 5) (q0 := 0) rfl cw_lt)) rfl rfl hl.1 rfl (lv_room (Nat.le_of_ble_eq_true rfl)) dX5_takeTurn_32 ⟨Nat.zero_le _, Nat.zero_le _⟩) hS (fun q _ h => h) (fun q h => h) (fun r_7 M_8 t H locs ht hvm hw hP hz1 hk1 hS => ?_)
      obtain ⟨h1, h2⟩ := hw
      subst h1 h2
      rw [ht] at hP
      have hD := cwl_D hI (enc cI c9 ad q_6.2)
      refine va_putN (D := (dC, dI)) (ci := 4) (v := .int q_6.1) (ty := .int) (C := RX4) (T := TX4) (N := 12) hx hb hts jX5_takeTurn_X4 tyX4 tyX4_ok nmX4 hown hKw hP hD hS w (cw_work (wok.lt hwk) (wok.k hwk)) rfl 11 (by decide) (va_Nw.use rfl (hKK.2.2 (.fieldLinkNest RX5 106 RX4 "latest" "I" RX5) (by decide +kernel))) (fun _ h9 => h9) rfl (by decide +kernel) rfl rfl (Nat.le_of_ble_eq_true rfl) dX5_takeTurn_35 (fun H locs hP _ hS => ?_)
      have hP : va_P (dC, dI) vwCl (cW cI c9 ad (up2 q_6.2 w 11 q_6.1)) H := by show va_P (dC, dI) vwCl (cwl 100 ad (enc cI c9 ad (up2 q_6.2 w 11 q_6.1))) H; rw [← en_w11 (wok.k hwk), ← cwl_set (wok.lt hwk)]; exact hP
      have hD := cwl_D hI (enc cI c9 ad (up2 q_6.2 w 11 q_6.1))
      generalize up2 q_6.2 w 11 q_6.1 = M_9 at hP hD h
      replace h := bm_e h
      try dsimp only at h
      refine lv_aload_n hx hb dX5_takeTurn_38 rfl (lv_at hl 1 rfl) ?_
      refine va_getN (D := (dC, dI)) (ci := 4) (v := .int (M_9 w 11)) (C := RX4) (T := TX4) (N := 12) hx hb hts jX5_takeTurn_X4 hown hKw hP w (cw_work (wok.lt hwk) (wok.k hwk)) rfl 11 (by decide) (va_Nw.use rfl (hKK.2.2 (.fieldLinkNest RX5 106 RX4 "latest" "I" RX5) (by decide +kernel))) (fun _ h9 => h9) rfl dX5_takeTurn_39 ?_
      replace h := Option.some.inj h
      subst h
      exact W.iret (v := (M_9 w 11)) hx hb hr (fun t ht hW => ⟨⟨_, _, rfl, ⟨rfl, rfl⟩, (show va_P (dC, dI) vwCl (cW cI c9 ad M_9) t.heap by rw [ht]; exact hP)⟩, hS.F ht⟩) hS.2.2 dX5_takeTurn_42
    · rw [if_neg c_5] at h
      refine lv_aload_n hx hb dX5_takeTurn_22 rfl (lv_at hl 0 rfl) ?_
      refine lv_aload_n hx hb dX5_takeTurn_23 rfl (lv_at hl 1 rfl) ?_
      obtain ⟨q_10, hq_10, h⟩ := bi_some h
      refine va_calli (va_runV (As := [.ref (ad w)]) (rest := [.ref (ad w)]) ⟨hx, hb, hml, hown, hts⟩ (k_X5_actOrFail l dC dI cI c9 ad hI M_2 w hwk q_10 hq_10) (cwV 1 hts gX5_takeTurn_X5_actOrFail rfl rfl rfl (by decide +kernel) ⟨Nat.le_of_ble_eq_true rfl, Nat.le_of_ble_eq_true rfl⟩) (gP_preV hKK hKw hP (va_recv hKw hP (ci := 5) (q0 := 0) rfl cw_lt)) rfl rfl hl.1 rfl (lv_room (Nat.le_of_ble_eq_true rfl)) dX5_takeTurn_24 ⟨Nat.zero_le _, Nat.zero_le _⟩) hS (fun q _ h => h) (fun q h => h) (fun r_11 M_12 t H locs ht hvm hw hP hz1 hk1 hS => ?_)
      obtain ⟨h1, h2⟩ := hw
      subst h1 h2
      rw [ht] at hP
      have hD := cwl_D hI (enc cI c9 ad q_10.2)
      refine lv_goto (tgt := 35) hx hb dX5_takeTurn_27 (by decide) ?_
      refine va_putN (D := (dC, dI)) (ci := 4) (v := .int q_10.1) (ty := .int) (C := RX4) (T := TX4) (N := 12) hx hb hts jX5_takeTurn_X4 tyX4 tyX4_ok nmX4 hown hKw hP hD hS w (cw_work (wok.lt hwk) (wok.k hwk)) rfl 11 (by decide) (va_Nw.use rfl (hKK.2.2 (.fieldLinkNest RX5 106 RX4 "latest" "I" RX5) (by decide +kernel))) (fun _ h9 => h9) rfl (by decide +kernel) rfl rfl (Nat.le_of_ble_eq_true rfl) dX5_takeTurn_35 (fun H locs hP _ hS => ?_)
      have hP : va_P (dC, dI) vwCl (cW cI c9 ad (up2 q_10.2 w 11 q_10.1)) H := by show va_P (dC, dI) vwCl (cwl 100 ad (enc cI c9 ad (up2 q_10.2 w 11 q_10.1))) H; rw [← en_w11 (wok.k hwk), ← cwl_set (wok.lt hwk)]; exact hP
      have hD := cwl_D hI (enc cI c9 ad (up2 q_10.2 w 11 q_10.1))
      generalize up2 q_10.2 w 11 q_10.1 = M_13 at hP hD h
      replace h := bm_e h
      try dsimp only at h
      refine lv_aload_n hx hb dX5_takeTurn_38 rfl (lv_at hl 1 rfl) ?_
      refine va_getN (D := (dC, dI)) (ci := 4) (v := .int (M_13 w 11)) (C := RX4) (T := TX4) (N := 12) hx hb hts jX5_takeTurn_X4 hown hKw hP w (cw_work (wok.lt hwk) (wok.k hwk)) rfl 11 (by decide) (va_Nw.use rfl (hKK.2.2 (.fieldLinkNest RX5 106 RX4 "latest" "I" RX5) (by decide +kernel))) (fun _ h9 => h9) rfl dX5_takeTurn_39 ?_
      replace h := Option.some.inj h
      subst h
      exact W.iret (v := (M_13 w 11)) hx hb hr (fun t ht hW => ⟨⟨_, _, rfl, ⟨rfl, rfl⟩, (show va_P (dC, dI) vwCl (cW cI c9 ad M_13) t.heap by rw [ht]; exact hP)⟩, hS.F ht⟩) hS.2.2 dX5_takeTurn_42
  · rw [if_neg c_1] at h
    refine lv_iconst (v := 0) hx hb dX5_takeTurn_7 (by decide) ?_
    replace h := Option.some.inj h
    subst h
    exact W.iret (v := 0) hx hb hr (fun t ht hW => ⟨⟨_, _, rfl, ⟨rfl, rfl⟩, (show va_P (dC, dI) vwCl (cW cI c9 ad M) t.heap by rw [ht]; exact hP)⟩, hS.F ht⟩) hS.2.2 dX5_takeTurn_8
theorem jX5_greatestInRingOf_X5 : ∀ w ∈ u_ws RX5 TX5 5, w ∈ wsX5_greatestInRingOf := by decide +kernel
def L_X5_greatestInRingOf_14 (K : Int32 → Int32 → Int32 → Option (Int32)) (M : Mem) (p1 : Int32) : Nat → Int32 → Int32 → Int32 → Option (Int32)
  | 0, _, _, _ => none
  | n + 1, v2_14, v3_14, v4_14 => (if 12 ≤ v4_14 then K v2_14 v3_14 v4_14 else (if v3_14 = (-1) then K v2_14 v3_14 v4_14 else (if v3_14 = p1 then K v2_14 v3_14 v4_14 else bi (F_X3_holderAwaitedBy M v3_14) fun q_6 => L_X5_greatestInRingOf_14 K M p1 n (if v2_14 < v3_14 then v3_14 else v2_14) q_6 (v4_14 + 1))))
def F_X5_greatestInRingOf (M : Mem) (p1 : Int32) : Option (Int32) :=
  bi (F_X3_holderAwaitedBy M p1) fun q_1 => L_X5_greatestInRingOf_14 (fun v2_14 v3_14 v4_14 => (if v3_14 = p1 then some v2_14 else some (-1))) M p1 4000 p1 q_1 0
set_option maxHeartbeats 4000000 in
set_option maxRecDepth 100000 in
theorem k_X5_greatestInRingOf (l : Launch) (dC : Nat → ClassId) (dI : Nat → Nat → Nat) (cI c9 : ClassId) (ad : Nat → Nat) (hI : Inj 100 ad) (M : Mem) (p1 : Int32) (q : Int32) (h : F_X5_greatestInRingOf M p1 = some q) : Met l yX5_greatestInRingOf wsX5_greatestInRingOf ({ frames := 3, cells := 0, slots := 0, locals := 67 }) (gP dC dI cI c9 ad M [.ref (ad 0), .int p1]) (vp_Si (fun x => x = q)) 0 0 (fun _ => False) := by
  refine Met.ofW (cc := cX5_greatestInRingOf) (maxL := 5) (ret := (some .int)) (by decide) rfl ?_
  intro p e s m args below meth c s₁ B hml hv
  obtain ⟨rfl, hP, hKK, hKw⟩ := hv
  have hx := B.exec
  have hb := B.bytes
  have hr := B.returns
  have hts := atoms_spec (ws := wsX5_greatestInRingOf) B.pre
  have hown : s.vm.findClass RX5 = some m.cls := findClass_of_methodNamed B.named
  have hlocks := B.notSynchronized
  have hl := lv_entry ([.ref (ad 0), .int p1]) (n := 5) (Nat.le_of_ble_eq_true rfl)
  rw [lg_entry_eq]
  generalize (lg_sl ([.ref (ad 0), .int p1]) ++ List.replicate (5 - (lg_sl ([.ref (ad 0), .int p1])).length) Slot.unset).toArray = ls at hl ⊢
  have hl : lv_has ls 5 [(0, .ref (ad 0)), (1, .int p1)] := hl
  unfold F_X5_greatestInRingOf at h
  refine lv_iload_n hx hb dX5_greatestInRingOf_0 rfl (lv_at hl 1 rfl) ?_
  refine lv_istore_n (lv' := [(2, .int p1), (0, .ref (ad 0)), (1, .int p1)]) hx hb dX5_greatestInRingOf_1 rfl hl (by decide) rfl (fun ls hl => ?_)
  refine lv_aload_n hx hb dX5_greatestInRingOf_2 rfl (lv_at hl 1 rfl) ?_
  refine va_get (D := (dC, dI)) (ci := 5) (v := .ref (ad 2)) (C := RX5) (T := TX5) (N := 5) hx hb hts jX5_greatestInRingOf_X5 hown hKw hP 0 cw_lt rfl 2 (by decide) (hts (.fieldLink RX5 18 "LendThreads" "shelf" "LLendThreads$Shelf;") (by decide +kernel)) (fun _ h9 => h9) rfl dX5_greatestInRingOf_3 ?_
  refine lv_iload_n hx hb dX5_greatestInRingOf_6 rfl (lv_at hl 2 rfl) ?_
  obtain ⟨q_1, hq_1, h⟩ := bi_some h
  refine vp_callSi (va_Run.run (va_runV (As := [.int p1]) (rest := []) ⟨hx, hb, hml, hown, hts⟩ (k_X3_holderAwaitedBy l dC dI cI c9 ad hI M p1 q_1 hq_1) (cwV 1 hts gX5_greatestInRingOf_X3_holderAwaitedBy rfl rfl rfl (by decide +kernel) ⟨Nat.le_of_ble_eq_true rfl, Nat.le_of_ble_eq_true rfl⟩) (gP_preV hKK hKw hP (va_recv hKw hP (ci := 3) (q0 := 2) rfl cw_shelf)) rfl rfl hl.1 rfl (lv_room (Nat.le_of_ble_eq_true rfl)) dX5_greatestInRingOf_7 ⟨Nat.zero_le _, Nat.zero_le _⟩)) (fun r_2 hr_2 => ?_)
  replace hr_2 := hr_2.symm
  subst hr_2
  refine lv_istore_n (lv' := [(3, .int q_1), (2, .int p1), (0, .ref (ad 0)), (1, .int p1)]) hx hb dX5_greatestInRingOf_10 rfl hl (by decide) rfl (fun ls hl => ?_)
  refine lv_iconst (v := 0) hx hb dX5_greatestInRingOf_11 (by decide) ?_
  refine lv_istore (lv' := [(4, .int 0), (3, .int q_1), (2, .int p1), (0, .ref (ad 0)), (1, .int p1)]) hx hb dX5_greatestInRingOf_12 hl (by decide) rfl (fun ls hl => ?_)
  have key14 : ∀ (K : Int32 → Int32 → Int32 → Option (Int32)), (∀ (v2_14 v3_14 v4_14 : Int32) (ls : Array Slot), K v2_14 v3_14 v4_14 = some q → lv_has ls 5 [(4, .int v4_14), (3, .int v3_14), (2, .int v2_14), (0, .ref (ad 0)), (1, .int p1)] → W p l e (headSpec wsX5_greatestInRingOf ({ frames := 3, cells := 0, slots := 0, locals := 67 })).room s m ([.ref (ad 0), .int p1] : List Value).toArray below meth c s.heap [] 0 0 (MQ below (vp_Si (fun x => x = q)) ([.ref (ad 0), .int p1] : List Value).toArray s 0 0 (fun _ => False)) (F0 m 52 ls [])) → ∀ (n : Nat), ∀ (v2_14 v3_14 v4_14 : Int32) (ls : Array Slot), L_X5_greatestInRingOf_14 K M p1 n v2_14 v3_14 v4_14 = some q → lv_has ls 5 [(4, .int v4_14), (3, .int v3_14), (2, .int v2_14), (0, .ref (ad 0)), (1, .int p1)] → W p l e (headSpec wsX5_greatestInRingOf ({ frames := 3, cells := 0, slots := 0, locals := 67 })).room s m ([.ref (ad 0), .int p1] : List Value).toArray below meth c s.heap [] 0 0 (MQ below (vp_Si (fun x => x = q)) ([.ref (ad 0), .int p1] : List Value).toArray s 0 0 (fun _ => False)) (F0 m 14 ls []) := by
    intro K hk n
    induction n with
    | zero =>
      intro v2_14 v3_14 v4_14 ls h
      exact absurd h (by simp [L_X5_greatestInRingOf_14])
    | succ n ih =>
      intro v2_14 v3_14 v4_14 ls h  hl
      simp only [L_X5_greatestInRingOf_14] at h
      refine lv_iload hx hb dX5_greatestInRingOf_14 (lv_at hl 0 rfl) ?_
      refine lv_bipush (v := 12) hx hb dX5_greatestInRingOf_16 (by decide) ?_
      refine lv_icmp_ge (tgt := 52) hx hb dX5_greatestInRingOf_18 (by decide) (fun c_3 => ?_) (fun c_3 => ?_)
      · rw [if_pos c_3] at h
        exact hk v2_14 v3_14 v4_14 _ h (lv_sub hl [0, 1, 2, 3, 4] rfl)
      · rw [if_neg c_3] at h
        refine lv_iload_n hx hb dX5_greatestInRingOf_21 rfl (lv_at hl 1 rfl) ?_
        refine lv_iconst (v := (-1)) hx hb dX5_greatestInRingOf_22 (by decide) ?_
        refine lv_icmp_eq (tgt := 52) hx hb dX5_greatestInRingOf_23 (by decide) (fun c_4 => ?_) (fun c_4 => ?_)
        · rw [if_pos c_4] at h
          exact hk v2_14 v3_14 v4_14 _ h (lv_sub hl [0, 1, 2, 3, 4] rfl)
        · rw [if_neg c_4] at h
          refine lv_iload_n hx hb dX5_greatestInRingOf_26 rfl (lv_at hl 1 rfl) ?_
          refine lv_iload_n hx hb dX5_greatestInRingOf_27 rfl (lv_at hl 4 rfl) ?_
          refine lv_icmp_eq (tgt := 52) hx hb dX5_greatestInRingOf_28 (by decide) (fun c_5 => ?_) (fun c_5 => ?_)
          · rw [if_pos c_5] at h
            exact hk v2_14 v3_14 v4_14 _ h (lv_sub hl [0, 1, 2, 3, 4] rfl)
          · rw [if_neg c_5] at h
            refine lv_iload_n hx hb dX5_greatestInRingOf_31 rfl (lv_at hl 2 rfl) ?_
            refine lv_iload_n hx hb dX5_greatestInRingOf_32 rfl (lv_at hl 1 rfl) ?_
            refine va_mmax hx hb (by rw [hml]; exact hl.1.symm) hown (hts (.methodLink RX5 214 Lib.Math.max.name) (by decide +kernel)) (hts (.static Lib.Math.max.name) (by decide +kernel)) (hts (.initialized "java/lang/Math") (by decide +kernel)) (hts (.code Lib.Math.max.name Lib.Math.max.code 2 (some .int)) (by decide +kernel)) (Nat.le_of_ble_eq_true rfl) (Nat.le_of_ble_eq_true rfl) (Nat.zero_le _) (Nat.zero_le _) dX5_greatestInRingOf_33 ?_
            refine lv_istore_n (lv' := [(2, .int (if v2_14 < v3_14 then v3_14 else v2_14)), (4, .int v4_14), (3, .int v3_14), (0, .ref (ad 0)), (1, .int p1)]) hx hb dX5_greatestInRingOf_36 rfl hl (by decide) rfl (fun ls hl => ?_)
            refine lv_aload_n hx hb dX5_greatestInRingOf_37 rfl (lv_at hl 3 rfl) ?_
            refine va_get (D := (dC, dI)) (ci := 5) (v := .ref (ad 2)) (C := RX5) (T := TX5) (N := 5) hx hb hts jX5_greatestInRingOf_X5 hown hKw hP 0 cw_lt rfl 2 (by decide) (hts (.fieldLink RX5 18 "LendThreads" "shelf" "LLendThreads$Shelf;") (by decide +kernel)) (fun _ h9 => h9) rfl dX5_greatestInRingOf_38 ?_
            refine lv_iload_n hx hb dX5_greatestInRingOf_41 rfl (lv_at hl 2 rfl) ?_
            obtain ⟨q_6, hq_6, h⟩ := bi_some h
            refine vp_callSi (va_Run.run (va_runV (As := [.int v3_14]) (rest := []) ⟨hx, hb, hml, hown, hts⟩ (k_X3_holderAwaitedBy l dC dI cI c9 ad hI M v3_14 q_6 hq_6) (cwV 1 hts gX5_greatestInRingOf_X3_holderAwaitedBy rfl rfl rfl (by decide +kernel) ⟨Nat.le_of_ble_eq_true rfl, Nat.le_of_ble_eq_true rfl⟩) (gP_preV hKK hKw hP (va_recv hKw hP (ci := 3) (q0 := 2) rfl cw_shelf)) rfl rfl hl.1 rfl (lv_room (Nat.le_of_ble_eq_true rfl)) dX5_greatestInRingOf_42 ⟨Nat.zero_le _, Nat.zero_le _⟩)) (fun r_7 hr_7 => ?_)
            replace hr_7 := hr_7.symm
            subst hr_7
            refine lv_istore_n (lv' := [(3, .int q_6), (2, .int (if v2_14 < v3_14 then v3_14 else v2_14)), (4, .int v4_14), (0, .ref (ad 0)), (1, .int p1)]) hx hb dX5_greatestInRingOf_45 rfl hl (by decide) rfl (fun ls hl => ?_)
            refine lv_iinc (v := v4_14 + 1) (lv' := [(4, .int (v4_14 + 1)), (3, .int q_6), (2, .int (if v2_14 < v3_14 then v3_14 else v2_14)), (0, .ref (ad 0)), (1, .int p1)]) hx hb dX5_greatestInRingOf_46 hl (k := 2) rfl rfl (by decide) rfl (fun ls hl => ?_)
            refine lv_goto (tgt := 14) hx hb dX5_greatestInRingOf_49 (by decide) ?_
            exact ih (if v2_14 < v3_14 then v3_14 else v2_14) q_6 (v4_14 + 1) _ h (lv_sub hl [0, 1, 2, 3, 4] rfl)
  refine key14 _ (fun v2_14 v3_14 v4_14 ls h  hl => ?_) 4000 p1 q_1 0 _ h (lv_sub hl [0, 1, 2, 3, 4] rfl)
  try dsimp only at h
  refine lv_iload_n hx hb dX5_greatestInRingOf_52 rfl (lv_at hl 1 rfl) ?_
  refine lv_iload_n hx hb dX5_greatestInRingOf_53 rfl (lv_at hl 4 rfl) ?_
  refine lv_icmp_ne (tgt := 61) hx hb dX5_greatestInRingOf_54 (by decide) (fun c_8 => ?_) (fun c_8 => ?_)
  · rw [if_neg c_8] at h
    refine lv_iconst (v := (-1)) hx hb dX5_greatestInRingOf_61 (by decide) ?_
    replace h := Option.some.inj h
    subst h
    exact W.iret (v := (-1)) hx hb hr (fun t ht hW => ⟨_, rfl, rfl, ht⟩) (fun _ h => by cases h) dX5_greatestInRingOf_62
  · rw [if_pos c_8] at h
    refine lv_iload_n hx hb dX5_greatestInRingOf_57 rfl (lv_at hl 2 rfl) ?_
    refine lv_goto (tgt := 62) hx hb dX5_greatestInRingOf_58 (by decide) ?_
    replace h := Option.some.inj h
    subst h
    exact W.iret (v := v2_14) hx hb hr (fun t ht hW => ⟨_, rfl, rfl, ht⟩) (fun _ h => by cases h) dX5_greatestInRingOf_62
