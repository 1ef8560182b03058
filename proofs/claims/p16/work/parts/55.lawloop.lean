theorem nwL_in : ∀ w ∈ nwL, w ∈ lw_tbl := by decide +kernel
set_option maxHeartbeats 4000000 in
set_option maxRecDepth 100000 in
theorem law_exit {p : Program} {l : Launch} {e : Env} {s : State} {m : MethodId} {below : List Frame} {meth : Method} {c : Code} {b L : Nat} {xs : Nat → Int32} (C0 : lw_At p s m meth c b L xs) (H : Heap) (locs : List Loc) (hS : va_S (fun q : Nat => s.heap.size ≤ q) s.heap H locs) (ls : Array Slot) {k n : Nat} (hk : k ≤ 601024) (hn : n ≤ 7293034) : W p l e room_1 s m #[Value.ref b] below meth c H locs k n (lw_Z below #[Value.ref b] s) (F0 m 613 ls []) := by
  obtain ⟨hx, hb, hr, hml, hown, hts0, hX, hbl, hlocks, hgv⟩ := id C0
  refine lv_iconst (v := 1) hx hb dL_law_613 (by decide) ?_
  refine va_forget (fun q hq => hS.2.2 q hq) ?_
  refine W.widen (k := 601024) (n := 7293034) hk hn ?_
  exact lw_ret hx hb hr hlocks dL_law_614
set_option maxHeartbeats 4000000 in
set_option maxRecDepth 100000 in
theorem law_loop {p : Program} {l : Launch} {e : Env} {s : State} {m : MethodId} {below : List Frame} {meth : Method} {c : Code} {b L : Nat} {xs : Nat → Int32} (C0 : lw_At p s m meth c b L xs) (hst : l.stackTraces = false) {dC : Nat → ClassId} {dI : Nat → Nat → Nat} {cI c9 cZ cJ : ClassId} {sa : Nat} {ad am : Nat → Nat} {o : Nat} (hC : LwC s dC dI cI c9 cZ cJ ad am o sa) (Iv : Nat → Mem → Mem → Prop) (hL : L ≤ 2560) (st0 : ∀ (i : Nat) (M N : Mem), i + 5 ≤ 2560 → Iv i M N → ∀ v1 v2 : Int32, ∃ q q', F_X5_work M v1 v2 = some q ∧ F_X6_work N v1 v2 = some q' ∧ Iv (i + 5) q.2 q'.2) (st1 : ∀ (i : Nat) (M N : Mem), i + 5 ≤ 2560 → Iv i M N → ∀ v1 v2 v3 v4 : Int32, ∃ q q', F_X5_wants M v1 v2 v3 v4 = some q ∧ F_X6_wants N v1 v2 v3 v4 = some q' ∧ Iv (i + 5) q.2 q'.2) (st2 : ∀ (i : Nat) (M N : Mem), i + 5 ≤ 2560 → Iv i M N → ∀ v1 v2 v3 : Int32, ∃ q q', F_X5_sends M v1 v2 v3 = some q ∧ F_X6_sends N v1 v2 v3 = some q' ∧ Iv (i + 5) q.2 q'.2) (st3 : ∀ (i : Nat) (M N : Mem), i + 5 ≤ 2560 → Iv i M N → ∀ v1 : Int32, ∃ q q', F_X5_loses M v1 = some q ∧ F_X6_loses N v1 = some q' ∧ Iv (i + 5) q.2 q'.2) (st4 : ∀ (i : Nat) (M N : Mem), i + 5 ≤ 2560 → Iv i M N → ∀ v1 : Int32, ∃ q q', F_X5_turn M v1 = some q ∧ F_X6_turn N v1 = some q' ∧ Iv (i + 5) q.2 q'.2) (st5 : ∀ (i : Nat) (M N : Mem), i + 5 ≤ 2560 → Iv i M N → ∃ q q', F_X5_run M  = some q ∧ F_X6_run N  = some q' ∧ Iv (i + 5) q.2 q'.2) (st6 : ∀ (i : Nat) (M N : Mem), i + 5 ≤ 2560 → Iv i M N → ∃ q q', F_X5_ring M  = some q ∧ F_X6_ring N  = some q' ∧ Iv (i + 5) q.2 q'.2) (st7 : ∀ (i : Nat) (M N : Mem), i + 5 ≤ 2560 → Iv i M N → ∀ v1 : Int32, ∃ q q', F_X5_interrupt M v1 = some q ∧ F_X6_interrupt N v1 = some q' ∧ Iv (i + 5) q.2 q'.2) (st8 : ∀ (i : Nat) (M N : Mem), i + 5 ≤ 2560 → Iv i M N → ∀ v1 : Int32, ∃ q q', F_X5_again M v1 = some q ∧ F_X6_again N v1 = some q' ∧ Iv (i + 5) q.2 q'.2) (st9 : ∀ (i : Nat) (M N : Mem), i + 5 ≤ 2560 → Iv i M N → ∃ q q', F_X5_close M  = some q ∧ F_X6_close N  = some q' ∧ Iv (i + 5) q.2 q'.2) (st10 : ∀ (i : Nat) (M N : Mem), i + 5 ≤ 2560 → Iv i M N → ∀ v1 v2 : Int32, ∃ q q', F_X5_state M v1 v2 = some q ∧ F_X6_state N v1 v2 = some q' ∧ Iv (i + 5) M q'.2) (st11 : ∀ (i : Nat) (M N : Mem), i + 5 ≤ 2560 → Iv i M N → ∀ v1 : Int32, ∃ q q', F_X5_has M v1 = some q ∧ F_X6_has N v1 = some q' ∧ Iv (i + 5) M q'.2) (st12 : ∀ (i : Nat) (M N : Mem), i + 5 ≤ 2560 → Iv i M N → ∀ v1 v2 : Int32, ∃ q q', F_X5_line M v1 v2 = some q ∧ F_X6_line N v1 v2 = some q' ∧ Iv (i + 5) M q'.2) (st13 : ∀ (i : Nat) (M N : Mem), i + 5 ≤ 2560 → Iv i M N → ∀ v1 : Int32, ∃ q', F_X6_value N v1 = some q' ∧ Iv (i + 5) M q'.2) (st14 : ∀ (i : Nat) (M N : Mem), i + 5 ≤ 2560 → Iv i M N → ∀ v1 : Int32, ∃ q q', F_X5_log M v1 = some q ∧ F_X6_log N v1 = some q' ∧ Iv (i + 5) M q'.2 ∧ q = q'.1) (st15 : ∀ (i : Nat) (M N : Mem), i + 5 ≤ 2560 → Iv i M N → ∀ v1 v2 : Int32, ∃ q q', F_X5_mail M v1 v2 = some q ∧ F_X6_mail N v1 v2 = some q' ∧ Iv (i + 5) M q'.2) : ∀ (d i : Nat), L ≤ i + d → i ≤ 2560 → ∀ (M N : Mem) (g : Nat → Int64) (H : Heap) (locs : List Loc) (ls : Array Slot), Iv i M N → LwS s dC dI cI c9 cZ cJ ad am o M N g H locs → lv_has ls 7 [(4, .int (nI i)), (3, .ref o), (2, .ref (am 0)), (1, .ref (ad 0)), (0, .ref b)] → W p l e room_1 s m #[Value.ref b] below meth c H locs (125 + i) (7298 + 6 * i) (lw_Z below #[Value.ref b] s) (F0 m 23 ls []) := by
  obtain ⟨hx, hb, hr, hml, hown, hts0, hX, hbl, hlocks, hgv⟩ := id C0
  have hbA : ¬ (fun q : Nat => s.heap.size ≤ q) b := Nat.not_le.mpr hbl
  have h5 : (nI L - 5).toInt = (L : Int) - 5 := by
    have e5 : (5 : Int32).toInt = 5 := by decide
    rw [ti_sub (by rw [ti_nI (by omega), e5]; omega) (by rw [ti_nI (by omega), e5]; omega), ti_nI (by omega), e5]
  intro d
  induction d with
  | zero =>
    intro i hd hi9 M N g H locs ls hv hLS hl
    have hS := hLS.2.2.2
    refine lv_iload hx hb dL_law_23 (lv_at hl 0 rfl) ?_
    refine lv_aload_n hx hb dL_law_25 rfl (lv_at hl 4 rfl) ?_
    refine va_slen hx hb hX hbl hbA hS dL_law_26 ?_
    refine lv_iconst (v := 5) hx hb dL_law_27 (by decide) ?_
    refine lv_isub hx hb dL_law_28 ?_
    refine lv_icmp_gt (tgt := 613) hx hb dL_law_29 (by decide) (fun c_1 => ?_) (fun c_1 => ?_)
    · exact law_exit C0 _ _ hS ls (by omega) (by omega)
    · have c_2 : ¬ (nI L - 5) < nI i := c_1
      rw [ti_lt, h5, ti_nI (by omega)] at c_2
      omega
  | succ d ih =>
    intro i hd hi9 M N g H locs ls hv hLS hl
    have hS := hLS.2.2.2
    refine lv_iload hx hb dL_law_23 (lv_at hl 0 rfl) ?_
    refine lv_aload_n hx hb dL_law_25 rfl (lv_at hl 4 rfl) ?_
    refine va_slen hx hb hX hbl hbA hS dL_law_26 ?_
    refine lv_iconst (v := 5) hx hb dL_law_27 (by decide) ?_
    refine lv_isub hx hb dL_law_28 ?_
    refine lv_icmp_gt (tgt := 613) hx hb dL_law_29 (by decide) (fun c_1 => ?_) (fun c_1 => ?_)
    · exact law_exit C0 _ _ hS ls (by omega) (by omega)
    have c_2 : ¬ (nI L - 5) < nI i := c_1
    rw [ti_lt, h5, ti_nI (by omega)] at c_2
    have hi : i + 5 ≤ L := by omega
    have kk : ∀ (M' N' : Mem) (g' : Nat → Int64) (H : Heap) (locs : List Loc) (ls : Array Slot), Iv (i + 5) M' N' → LwS s dC dI cI c9 cZ cJ ad am o M' N' g' H locs → lv_has ls 7 [(4, .int (nI i)), (3, .ref o), (2, .ref (am 0)), (1, .ref (ad 0)), (0, .ref b)] → W p l e room_1 s m #[Value.ref b] below meth c H locs (125 + i + 1) (7298 + 6 * i + 6) (lw_Z below #[Value.ref b] s) (F0 m 607 ls []) := by
      intro M' N' g' H locs ls hv hLS hl
      refine lv_iinc (v := nI (i + 5)) (lv' := [(4, .int (nI (i + 5))), (3, .ref o), (2, .ref (am 0)), (1, .ref (ad 0)), (0, .ref b)]) hx hb dL_law_607 hl (k := 0) rfl (show nI i + 5 = nI (i + 5) from nI_add i 5) (by decide) rfl (fun ls hl => ?_)
      refine lv_goto (tgt := 23) hx hb dL_law_610 (by decide) ?_
      refine W.widen (k := 125 + (i + 5)) (n := 7298 + 6 * (i + 5)) (by omega) (by omega) ?_
      exact ih (i + 5) (by omega) (by omega) M' N' g' H locs ls hv hLS hl
    refine lv_aload_n hx hb dL_law_32 rfl (lv_at hl 4 rfl) ?_
    refine lv_iload hx hb dL_law_33 (lv_at hl 0 rfl) ?_
    refine va_sld hx hb hX hbl hbA hS (vp_in_iff.mpr (by rw [ti_nI (by omega)]; omega)) dL_law_35 ?_
    refine lv_bipush (v := 15) hx hb dL_law_36 (by decide) ?_
    refine lv_iand hx hb dL_law_38 ?_
    refine lv_topi (fun sw esw => ?_)
    obtain ⟨j, hj, ej⟩ := pk_andE (xs (nI i).toNatClampNeg) (m := 15) 4 (by decide)
    rw [ej] at esw
    subst esw
    rcases (show j = 0 ∨ j = 1 ∨ j = 2 ∨ j = 3 ∨ j = 4 ∨ j = 5 ∨ j = 6 ∨ j = 7 ∨ j = 8 ∨ j = 9 ∨ j = 10 ∨ j = 11 ∨ j = 12 ∨ j = 13 ∨ j = 14 ∨ j = 15 by omega) with rfl | rfl | rfl | rfl | rfl | rfl | rfl | rfl | rfl | rfl | rfl | rfl | rfl | rfl | rfl | rfl
    · refine lv_tableIn (off := 77) (tgt := 116) hx hb dL_law_39 (by decide +kernel) (by decide +kernel) (by decide +kernel) (by decide) ?_
      exact law_0 C0 hst hC Iv hi hL (st0 i M N (by omega) hv) g H locs ls hLS hl kk
    · refine lv_tableIn (off := 114) (tgt := 153) hx hb dL_law_39 (by decide +kernel) (by decide +kernel) (by decide +kernel) (by decide) ?_
      exact law_1 C0 hst hC Iv hi hL (st1 i M N (by omega) hv) g H locs ls hLS hl kk
    · refine lv_tableIn (off := 191) (tgt := 230) hx hb dL_law_39 (by decide +kernel) (by decide +kernel) (by decide +kernel) (by decide) ?_
      exact law_2 C0 hst hC Iv hi hL (st2 i M N (by omega) hv) g H locs ls hLS hl kk
    · refine lv_tableIn (off := 240) (tgt := 279) hx hb dL_law_39 (by decide +kernel) (by decide +kernel) (by decide +kernel) (by decide) ?_
      exact law_3 C0 hst hC Iv hi hL (st3 i M N (by omega) hv) g H locs ls hLS hl kk
    · refine lv_tableIn (off := 265) (tgt := 304) hx hb dL_law_39 (by decide +kernel) (by decide +kernel) (by decide +kernel) (by decide) ?_
      exact law_4 C0 hst hC Iv hi hL (st4 i M N (by omega) hv) g H locs ls hLS hl kk
    · refine lv_tableIn (off := 290) (tgt := 329) hx hb dL_law_39 (by decide +kernel) (by decide +kernel) (by decide +kernel) (by decide) ?_
      exact law_5 C0 hst hC Iv hi hL (st5 i M N (by omega) hv) g H locs ls hLS hl kk
    · refine lv_tableIn (off := 303) (tgt := 342) hx hb dL_law_39 (by decide +kernel) (by decide +kernel) (by decide +kernel) (by decide) ?_
      exact law_6 C0 hst hC Iv hi hL (st6 i M N (by omega) hv) g H locs ls hLS hl kk
    · refine lv_tableIn (off := 316) (tgt := 355) hx hb dL_law_39 (by decide +kernel) (by decide +kernel) (by decide +kernel) (by decide) ?_
      exact law_7 C0 hst hC Iv hi hL (st7 i M N (by omega) hv) g H locs ls hLS hl kk
    · refine lv_tableIn (off := 341) (tgt := 380) hx hb dL_law_39 (by decide +kernel) (by decide +kernel) (by decide +kernel) (by decide) ?_
      exact law_8 C0 hst hC Iv hi hL (st8 i M N (by omega) hv) g H locs ls hLS hl kk
    · refine lv_tableIn (off := 366) (tgt := 405) hx hb dL_law_39 (by decide +kernel) (by decide +kernel) (by decide +kernel) (by decide) ?_
      exact law_9 C0 hst hC Iv hi hL (st9 i M N (by omega) hv) g H locs ls hLS hl kk
    · refine lv_tableIn (off := 379) (tgt := 418) hx hb dL_law_39 (by decide +kernel) (by decide +kernel) (by decide +kernel) (by decide) ?_
      exact law_10 C0 hst hC Iv hi hL (st10 i M N (by omega) hv) g H locs ls hLS hl kk
    · refine lv_tableIn (off := 416) (tgt := 455) hx hb dL_law_39 (by decide +kernel) (by decide +kernel) (by decide +kernel) (by decide) ?_
      exact law_11 C0 hst hC Iv hi hL (st11 i M N (by omega) hv) g H locs ls hLS hl kk
    · refine lv_tableIn (off := 441) (tgt := 480) hx hb dL_law_39 (by decide +kernel) (by decide +kernel) (by decide +kernel) (by decide) ?_
      exact law_12 C0 hst hC Iv hi hL (st12 i M N (by omega) hv) g H locs ls hLS hl kk
    · refine lv_tableIn (off := 478) (tgt := 517) hx hb dL_law_39 (by decide +kernel) (by decide +kernel) (by decide +kernel) (by decide) ?_
      exact law_13 C0 hst hC Iv hi hL (st13 i M N (by omega) hv) g H locs ls hLS hl kk
    · refine lv_tableIn (off := 506) (tgt := 545) hx hb dL_law_39 (by decide +kernel) (by decide +kernel) (by decide +kernel) (by decide) ?_
      exact law_14 C0 hst hC Iv hi hL (st14 i M N (by omega) hv) g H locs ls hLS hl kk
    · refine lv_tableIn (off := 531) (tgt := 570) hx hb dL_law_39 (by decide +kernel) (by decide +kernel) (by decide +kernel) (by decide) ?_
      exact law_15 C0 hst hC Iv hi hL (st15 i M N (by omega) hv) g H locs ls hLS hl kk
