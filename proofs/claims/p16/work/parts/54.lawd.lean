set_option maxHeartbeats 4000000 in
set_option maxRecDepth 100000 in
theorem law_12 {p : Program} {l : Launch} {e : Env} {s : State} {m : MethodId} {below : List Frame} {meth : Method} {c : Code} {b L : Nat} {xs : Nat → Int32} (C0 : lw_At p s m meth c b L xs) (hst : l.stackTraces = false) {dC : Nat → ClassId} {dI : Nat → Nat → Nat} {cI c9 cZ cJ : ClassId} {sa : Nat} {ad am : Nat → Nat} {o : Nat} (hC : LwC s dC dI cI c9 cZ cJ ad am o sa) (Iv : Nat → Mem → Mem → Prop) {i : Nat} (hi : i + 5 ≤ L) (hL : L ≤ 2560) {M N : Mem} (stp : ∀ v1 v2 : Int32, ∃ q q', F_X5_line M v1 v2 = some q ∧ F_X6_line N v1 v2 = some q' ∧ Iv (i + 5) M q'.2) (g : Nat → Int64) (H : Heap) (locs : List Loc) (ls : Array Slot) (hLS : LwS s dC dI cI c9 cZ cJ ad am o M N g H locs) (hl : lv_has ls 7 [(4, .int (nI i)), (3, .ref o), (2, .ref (am 0)), (1, .ref (ad 0)), (0, .ref b)]) (kk : ∀ (M' N' : Mem) (g' : Nat → Int64) (H : Heap) (locs : List Loc) (ls : Array Slot), Iv (i + 5) M' N' → LwS s dC dI cI c9 cZ cJ ad am o M' N' g' H locs → lv_has ls 7 [(4, .int (nI i)), (3, .ref o), (2, .ref (am 0)), (1, .ref (ad 0)), (0, .ref b)] → W p l e room_1 s m #[Value.ref b] below meth c H locs (125 + i + 1) (7298 + 6 * i + 6) (lw_Z below #[Value.ref b] s) (F0 m 607 ls [])) : W p l e room_1 s m #[Value.ref b] below meth c H locs (125 + i) (7298 + 6 * i) (lw_Z below #[Value.ref b] s) (F0 m 480 ls []) := by
  obtain ⟨hx, hb, hr, hml, hown, hts0, hX, hbl, hlocks, hgv⟩ := id C0
  have hts : ∀ w ∈ wsL_law, w.before #[Value.ref b] s = true := fun w h => hts0 w (wsL_law_in w h)
  have hbA : ¬ (fun q : Nat => s.heap.size ≤ q) b := Nat.not_le.mpr hbl
  obtain ⟨hKK, hKw, hKz, hKj, hE0, hIx, hIm, hxm, hxo, hmo, hax, ham, hao⟩ := id hC
  have hAx : ∀ q, Ac 100 ad q → s.heap.size ≤ q := fun q h => by obtain ⟨k, hk, rfl⟩ := h; exact hax k hk
  have hAm : ∀ q, Ac 24 am q → s.heap.size ≤ q := fun q h => by obtain ⟨k, hk, rfl⟩ := h; exact ham k hk
  have hj1 : vp_in (nI i + 1) L := vp_in_iff.mpr (by rw [show nI i + 1 = nI (i + 1) from nI_add i 1, ti_nI (by omega)]; omega)
  have hj2 : vp_in (nI i + 2) L := vp_in_iff.mpr (by rw [show nI i + 2 = nI (i + 2) from nI_add i 2, ti_nI (by omega)]; omega)
  have hj3 : vp_in (nI i + 3) L := vp_in_iff.mpr (by rw [show nI i + 3 = nI (i + 3) from nI_add i 3, ti_nI (by omega)]; omega)
  have hj4 : vp_in (nI i + 4) L := vp_in_iff.mpr (by rw [show nI i + 4 = nI (i + 4) from nI_add i 4, ti_nI (by omega)]; omega)
  obtain ⟨hPx, hPm, hPo, hS⟩ := hLS
  refine lv_aload_n hx hb dL_law_480 rfl (lv_at hl 3 rfl) ?_
  refine lv_aload_n hx hb dL_law_481 rfl (lv_at hl 4 rfl) ?_
  refine lv_iload hx hb dL_law_482 (lv_at hl 0 rfl) ?_
  refine lv_iconst (v := 1) hx hb dL_law_484 (by decide) ?_
  refine lv_iadd hx hb dL_law_485 ?_
  refine va_sld hx hb hX hbl hbA hS hj1 dL_law_486 ?_
  refine lv_aload_n hx hb dL_law_487 rfl (lv_at hl 4 rfl) ?_
  refine lv_iload hx hb dL_law_488 (lv_at hl 0 rfl) ?_
  refine lv_iconst (v := 2) hx hb dL_law_490 (by decide) ?_
  refine lv_iadd hx hb dL_law_491 ?_
  refine va_sld hx hb hX hbl hbA hS hj2 dL_law_492 ?_
  obtain ⟨q, q', hq, hq', hv'⟩ := stp (xs (nI i + 1).toNatClampNeg) (xs (nI i + 2).toNatClampNeg)
  refine vp_callSi (va_Run.run (va_runV (As := [.int (xs (nI i + 1).toNatClampNeg), .int (xs (nI i + 2).toNatClampNeg)]) (rest := []) ⟨hx, hb, hml, hown, hts⟩ (k_X5_line l dC dI cI c9 ad hIx M (xs (nI i + 1).toNatClampNeg) (xs (nI i + 2).toNatClampNeg) q hq) (cwV 2 hts gL_law_X5_line rfl rfl rfl (by decide +kernel) ⟨Nat.le_of_ble_eq_true rfl, Nat.le_of_ble_eq_true rfl⟩) (gP_preV hKK hKw hPx (va_recv hKw hPx (ci := 5) (q0 := 0) rfl cw_lt)) rfl rfl hl.1 rfl (lv_room (Nat.le_of_ble_eq_true rfl)) dL_law_493 ⟨(show 125 + i + 0 ≤ 601024 by omega), (show 7298 + 6 * i + 0 ≤ 7293034 by omega)⟩)) (fun r hr => ?_)
  replace hr := hr.symm
  subst hr
  refine lv_pop hx hb dL_law_496 rfl ?_
  refine lv_aload_n hx hb dL_law_497 rfl (lv_at hl 2 rfl) ?_
  refine lv_aload_n hx hb dL_law_498 rfl (lv_at hl 4 rfl) ?_
  refine lv_iload hx hb dL_law_499 (lv_at hl 0 rfl) ?_
  refine lv_iconst (v := 1) hx hb dL_law_501 (by decide) ?_
  refine lv_iadd hx hb dL_law_502 ?_
  refine va_sld hx hb hX hbl hbA hS hj1 dL_law_503 ?_
  refine lv_aload_n hx hb dL_law_504 rfl (lv_at hl 4 rfl) ?_
  refine lv_iload hx hb dL_law_505 (lv_at hl 0 rfl) ?_
  refine lv_iconst (v := 2) hx hb dL_law_507 (by decide) ?_
  refine lv_iadd hx hb dL_law_508 ?_
  refine va_sld hx hb hX hbl hbA hS hj2 dL_law_509 ?_
  refine va_calli (va_runV (As := [.int (xs (nI i + 1).toNatClampNeg), .int (xs (nI i + 2).toNatClampNeg)]) (rest := []) ⟨hx, hb, hml, hown, hts⟩ (k_X6_line l dC dI cI cZ am hIm N (xs (nI i + 1).toNatClampNeg) (xs (nI i + 2).toNatClampNeg) q' hq') (cwV 2 hts gL_law_X6_line rfl rfl rfl (by decide +kernel) ⟨Nat.le_of_ble_eq_true rfl, Nat.le_of_ble_eq_true rfl⟩) (gm_preV hKK hKz hPm (va_recv hKz hPm (ci := 6) (q0 := 0) rfl mw_0)) rfl rfl hl.1 rfl (lv_room (Nat.le_of_ble_eq_true rfl)) dL_law_510 ⟨(show 125 + i + 0 ≤ 601024 by omega), (show 7298 + 6 * i + 0 ≤ 7293034 by omega)⟩) hS (fun q _ h => hAm q h) hAm (fun r N' t H1 locs ht hvm hw hB hz1 hk1 hS => ?_)
  obtain ⟨h1, h2⟩ := hw
  subst h1 h2
  rw [ht] at hB
  have hPm : va_P (dC, dI) vwCl (mW cI cZ am q'.2) H1 := hB
  replace hPx := lw_k hPx hk1 (lw_nx hC)
  replace hPo := lw_k hPo hk1 (lw_nq hC)
  clear hk1 hz1 hB ht
  generalize H1 = H at hPx hPm hPo hS ⊢
  refine lv_pop hx hb dL_law_513 rfl ?_
  refine lv_goto (tgt := 607) hx hb dL_law_514 (by decide) ?_
  refine W.widen (k := 125 + i + 1) (n := 7298 + 6 * i + 6) (by omega) (by omega) ?_
  exact kk _ _ _ _ _ _ hv' ⟨hPx, hPm, hPo, hS⟩ (lv_sub hl [0, 1, 2, 3, 4] rfl)
set_option maxHeartbeats 4000000 in
set_option maxRecDepth 100000 in
theorem law_13 {p : Program} {l : Launch} {e : Env} {s : State} {m : MethodId} {below : List Frame} {meth : Method} {c : Code} {b L : Nat} {xs : Nat → Int32} (C0 : lw_At p s m meth c b L xs) (hst : l.stackTraces = false) {dC : Nat → ClassId} {dI : Nat → Nat → Nat} {cI c9 cZ cJ : ClassId} {sa : Nat} {ad am : Nat → Nat} {o : Nat} (hC : LwC s dC dI cI c9 cZ cJ ad am o sa) (Iv : Nat → Mem → Mem → Prop) {i : Nat} (hi : i + 5 ≤ L) (hL : L ≤ 2560) {M N : Mem} (stp : ∀ v1 : Int32, ∃ q', F_X6_value N v1 = some q' ∧ Iv (i + 5) M q'.2) (g : Nat → Int64) (H : Heap) (locs : List Loc) (ls : Array Slot) (hLS : LwS s dC dI cI c9 cZ cJ ad am o M N g H locs) (hl : lv_has ls 7 [(4, .int (nI i)), (3, .ref o), (2, .ref (am 0)), (1, .ref (ad 0)), (0, .ref b)]) (kk : ∀ (M' N' : Mem) (g' : Nat → Int64) (H : Heap) (locs : List Loc) (ls : Array Slot), Iv (i + 5) M' N' → LwS s dC dI cI c9 cZ cJ ad am o M' N' g' H locs → lv_has ls 7 [(4, .int (nI i)), (3, .ref o), (2, .ref (am 0)), (1, .ref (ad 0)), (0, .ref b)] → W p l e room_1 s m #[Value.ref b] below meth c H locs (125 + i + 1) (7298 + 6 * i + 6) (lw_Z below #[Value.ref b] s) (F0 m 607 ls [])) : W p l e room_1 s m #[Value.ref b] below meth c H locs (125 + i) (7298 + 6 * i) (lw_Z below #[Value.ref b] s) (F0 m 517 ls []) := by
  obtain ⟨hx, hb, hr, hml, hown, hts0, hX, hbl, hlocks, hgv⟩ := id C0
  have hts : ∀ w ∈ wsL_law, w.before #[Value.ref b] s = true := fun w h => hts0 w (wsL_law_in w h)
  have hbA : ¬ (fun q : Nat => s.heap.size ≤ q) b := Nat.not_le.mpr hbl
  obtain ⟨hKK, hKw, hKz, hKj, hE0, hIx, hIm, hxm, hxo, hmo, hax, ham, hao⟩ := id hC
  have hAx : ∀ q, Ac 100 ad q → s.heap.size ≤ q := fun q h => by obtain ⟨k, hk, rfl⟩ := h; exact hax k hk
  have hAm : ∀ q, Ac 24 am q → s.heap.size ≤ q := fun q h => by obtain ⟨k, hk, rfl⟩ := h; exact ham k hk
  have hj1 : vp_in (nI i + 1) L := vp_in_iff.mpr (by rw [show nI i + 1 = nI (i + 1) from nI_add i 1, ti_nI (by omega)]; omega)
  have hj2 : vp_in (nI i + 2) L := vp_in_iff.mpr (by rw [show nI i + 2 = nI (i + 2) from nI_add i 2, ti_nI (by omega)]; omega)
  have hj3 : vp_in (nI i + 3) L := vp_in_iff.mpr (by rw [show nI i + 3 = nI (i + 3) from nI_add i 3, ti_nI (by omega)]; omega)
  have hj4 : vp_in (nI i + 4) L := vp_in_iff.mpr (by rw [show nI i + 4 = nI (i + 4) from nI_add i 4, ti_nI (by omega)]; omega)
  obtain ⟨hPx, hPm, hPo, hS⟩ := hLS
  refine lv_aload_n hx hb dL_law_517 rfl (lv_at hl 3 rfl) ?_
  refine lv_aload_n hx hb dL_law_518 rfl (lv_at hl 4 rfl) ?_
  refine lv_iload hx hb dL_law_519 (lv_at hl 0 rfl) ?_
  refine lv_iconst (v := 1) hx hb dL_law_521 (by decide) ?_
  refine lv_iadd hx hb dL_law_522 ?_
  refine va_sld hx hb hX hbl hbA hS hj1 dL_law_523 ?_
  refine lv_aload_n hx hb dL_law_524 rfl (lv_at hl 1 rfl) ?_
  have hPc := lw_vP hPx hPo
  have hDc := lw_vD hC M g
  have hFc := lw_vF hC g hS
  have hEc : cxE s.heap.size sa s H := hE0.kept (fun q h1 h2 => hS.2.1 q h1 h2)
  refine va_calli (vx_runSW (As := [.ref (ad 0), .int (xs (nI i + 1).toNatClampNeg), .ref o]) (rest := []) ⟨hx, hb, hml, hown, hts⟩ (c_lvalue l hst dC dI cI cJ s.heap.size sa H.size (ad 0) (ad 1) (ad 2) (ad 9) (ad 12) (ad 3) (ad 4) (ad 5) (ad 6) o (M 0 1) (M 3) g (xs (nI i + 1).toNatClampNeg)) (vx_cwSW 3 hts gL_law_L_value rfl rfl rfl (by decide +kernel) ⟨Nat.le_of_ble_eq_true rfl, Nat.le_of_ble_eq_true rfl⟩) (cxV_preS hKK hKj hPc hDc hEc) rfl rfl hl.1 rfl (lv_room (Nat.le_of_ble_eq_true rfl)) dL_law_525 ⟨(show 125 + i + 1 ≤ 601024 by omega), (show 7298 + 6 * i + 6 ≤ 7293034 by omega)⟩) hS (fun q _ h => hFc q h) hFc (fun rk uk t H1 locs ht hvm hwk hB hz1 hk1 hS => ?_)
  obtain ⟨hPo1, -⟩ := hB
  rw [ht] at hPo1
  replace hPx := lw_k hPx hk1 (lw_vx hC g hPx)
  replace hPm := lw_k hPm hk1 (lw_vm hC g hPm)
  replace hPo := hPo1
  clear hk1 hz1 hPo1 ht hPc hDc hFc hEc
  generalize H1 = H at hPx hPm hPo hS ⊢
  refine lv_istore (lv' := [(5, .int rk), (4, .int (nI i)), (3, .ref o), (2, .ref (am 0)), (1, .ref (ad 0)), (0, .ref b)]) hx hb dL_law_528 hl (by decide) rfl (fun ls hl => ?_)
  refine lv_aload_n hx hb dL_law_530 rfl (lv_at hl 3 rfl) ?_
  refine lv_aload_n hx hb dL_law_531 rfl (lv_at hl 5 rfl) ?_
  refine lv_iload hx hb dL_law_532 (lv_at hl 1 rfl) ?_
  refine lv_iconst (v := 1) hx hb dL_law_534 (by decide) ?_
  refine lv_iadd hx hb dL_law_535 ?_
  refine va_sld hx hb hX hbl hbA hS hj1 dL_law_536 ?_
  obtain ⟨q', hq', hv'⟩ := stp (xs (nI i + 1).toNatClampNeg)
  refine va_calli (va_runV (As := [.int (xs (nI i + 1).toNatClampNeg)]) (rest := []) ⟨hx, hb, hml, hown, hts⟩ (k_X6_value l dC dI cI cZ am hIm N (xs (nI i + 1).toNatClampNeg) q' hq') (cwV 1 hts gL_law_X6_value rfl rfl rfl (by decide +kernel) ⟨Nat.le_of_ble_eq_true rfl, Nat.le_of_ble_eq_true rfl⟩) (gm_preV hKK hKz hPm (va_recv hKz hPm (ci := 6) (q0 := 0) rfl mw_0)) rfl rfl hl.1 rfl (lv_room (Nat.le_of_ble_eq_true rfl)) dL_law_537 ⟨(show 125 + i + 1 + 0 ≤ 601024 by omega), (show 7298 + 6 * i + 6 + 0 ≤ 7293034 by omega)⟩) hS (fun q _ h => hAm q h) hAm (fun r N' t H1 locs ht hvm hw hB hz1 hk1 hS => ?_)
  obtain ⟨h1, h2⟩ := hw
  subst h1 h2
  rw [ht] at hB
  have hPm : va_P (dC, dI) vwCl (mW cI cZ am q'.2) H1 := hB
  replace hPx := lw_k hPx hk1 (lw_nx hC)
  replace hPo := lw_k hPo hk1 (lw_nq hC)
  clear hk1 hz1 hB ht
  generalize H1 = H at hPx hPm hPo hS ⊢
  refine lv_istore (lv' := [(6, .int q'.1), (5, .int rk), (4, .int (nI i)), (3, .ref o), (2, .ref (am 0)), (1, .ref (ad 0)), (0, .ref b)]) hx hb dL_law_540 hl (by decide) rfl (fun ls hl => ?_)
  refine lv_goto (tgt := 607) hx hb dL_law_542 (by decide) ?_
  refine W.widen (k := 125 + i + 1) (n := 7298 + 6 * i + 6) (by omega) (by omega) ?_
  exact kk _ _ _ _ _ _ hv' ⟨hPx, hPm, hPo, hS⟩ (lv_sub hl [2, 3, 4, 5, 6] rfl)
set_option maxHeartbeats 4000000 in
set_option maxRecDepth 100000 in
theorem law_14 {p : Program} {l : Launch} {e : Env} {s : State} {m : MethodId} {below : List Frame} {meth : Method} {c : Code} {b L : Nat} {xs : Nat → Int32} (C0 : lw_At p s m meth c b L xs) (hst : l.stackTraces = false) {dC : Nat → ClassId} {dI : Nat → Nat → Nat} {cI c9 cZ cJ : ClassId} {sa : Nat} {ad am : Nat → Nat} {o : Nat} (hC : LwC s dC dI cI c9 cZ cJ ad am o sa) (Iv : Nat → Mem → Mem → Prop) {i : Nat} (hi : i + 5 ≤ L) (hL : L ≤ 2560) {M N : Mem} (stp : ∀ v1 : Int32, ∃ q q', F_X5_log M v1 = some q ∧ F_X6_log N v1 = some q' ∧ Iv (i + 5) M q'.2 ∧ q = q'.1) (g : Nat → Int64) (H : Heap) (locs : List Loc) (ls : Array Slot) (hLS : LwS s dC dI cI c9 cZ cJ ad am o M N g H locs) (hl : lv_has ls 7 [(4, .int (nI i)), (3, .ref o), (2, .ref (am 0)), (1, .ref (ad 0)), (0, .ref b)]) (kk : ∀ (M' N' : Mem) (g' : Nat → Int64) (H : Heap) (locs : List Loc) (ls : Array Slot), Iv (i + 5) M' N' → LwS s dC dI cI c9 cZ cJ ad am o M' N' g' H locs → lv_has ls 7 [(4, .int (nI i)), (3, .ref o), (2, .ref (am 0)), (1, .ref (ad 0)), (0, .ref b)] → W p l e room_1 s m #[Value.ref b] below meth c H locs (125 + i + 1) (7298 + 6 * i + 6) (lw_Z below #[Value.ref b] s) (F0 m 607 ls [])) : W p l e room_1 s m #[Value.ref b] below meth c H locs (125 + i) (7298 + 6 * i) (lw_Z below #[Value.ref b] s) (F0 m 545 ls []) := by
  obtain ⟨hx, hb, hr, hml, hown, hts0, hX, hbl, hlocks, hgv⟩ := id C0
  have hts : ∀ w ∈ wsL_law, w.before #[Value.ref b] s = true := fun w h => hts0 w (wsL_law_in w h)
  have hbA : ¬ (fun q : Nat => s.heap.size ≤ q) b := Nat.not_le.mpr hbl
  obtain ⟨hKK, hKw, hKz, hKj, hE0, hIx, hIm, hxm, hxo, hmo, hax, ham, hao⟩ := id hC
  have hAx : ∀ q, Ac 100 ad q → s.heap.size ≤ q := fun q h => by obtain ⟨k, hk, rfl⟩ := h; exact hax k hk
  have hAm : ∀ q, Ac 24 am q → s.heap.size ≤ q := fun q h => by obtain ⟨k, hk, rfl⟩ := h; exact ham k hk
  have hj1 : vp_in (nI i + 1) L := vp_in_iff.mpr (by rw [show nI i + 1 = nI (i + 1) from nI_add i 1, ti_nI (by omega)]; omega)
  have hj2 : vp_in (nI i + 2) L := vp_in_iff.mpr (by rw [show nI i + 2 = nI (i + 2) from nI_add i 2, ti_nI (by omega)]; omega)
  have hj3 : vp_in (nI i + 3) L := vp_in_iff.mpr (by rw [show nI i + 3 = nI (i + 3) from nI_add i 3, ti_nI (by omega)]; omega)
  have hj4 : vp_in (nI i + 4) L := vp_in_iff.mpr (by rw [show nI i + 4 = nI (i + 4) from nI_add i 4, ti_nI (by omega)]; omega)
  obtain ⟨hPx, hPm, hPo, hS⟩ := hLS
  refine lv_aload_n hx hb dL_law_545 rfl (lv_at hl 3 rfl) ?_
  refine lv_aload_n hx hb dL_law_546 rfl (lv_at hl 4 rfl) ?_
  refine lv_iload hx hb dL_law_547 (lv_at hl 0 rfl) ?_
  refine lv_iconst (v := 1) hx hb dL_law_549 (by decide) ?_
  refine lv_iadd hx hb dL_law_550 ?_
  refine va_sld hx hb hX hbl hbA hS hj1 dL_law_551 ?_
  obtain ⟨q, q', hq, hq', hv', heq⟩ := stp (xs (nI i + 1).toNatClampNeg)
  refine vp_callSi (va_Run.run (va_runV (As := [.int (xs (nI i + 1).toNatClampNeg)]) (rest := []) ⟨hx, hb, hml, hown, hts⟩ (k_X5_log l dC dI cI c9 ad hIx M (xs (nI i + 1).toNatClampNeg) q hq) (cwV 1 hts gL_law_X5_log rfl rfl rfl (by decide +kernel) ⟨Nat.le_of_ble_eq_true rfl, Nat.le_of_ble_eq_true rfl⟩) (gP_preV hKK hKw hPx (va_recv hKw hPx (ci := 5) (q0 := 0) rfl cw_lt)) rfl rfl hl.1 rfl (lv_room (Nat.le_of_ble_eq_true rfl)) dL_law_552 ⟨(show 125 + i + 0 ≤ 601024 by omega), (show 7298 + 6 * i + 0 ≤ 7293034 by omega)⟩)) (fun r hr => ?_)
  replace hr := hr.symm
  subst hr
  refine lv_aload_n hx hb dL_law_555 rfl (lv_at hl 2 rfl) ?_
  refine lv_aload_n hx hb dL_law_556 rfl (lv_at hl 4 rfl) ?_
  refine lv_iload hx hb dL_law_557 (lv_at hl 0 rfl) ?_
  refine lv_iconst (v := 1) hx hb dL_law_559 (by decide) ?_
  refine lv_iadd hx hb dL_law_560 ?_
  refine va_sld hx hb hX hbl hbA hS hj1 dL_law_561 ?_
  refine va_calli (va_runV (As := [.int (xs (nI i + 1).toNatClampNeg)]) (rest := [.int q]) ⟨hx, hb, hml, hown, hts⟩ (k_X6_log l dC dI cI cZ am hIm N (xs (nI i + 1).toNatClampNeg) q' hq') (cwV 1 hts gL_law_X6_log rfl rfl rfl (by decide +kernel) ⟨Nat.le_of_ble_eq_true rfl, Nat.le_of_ble_eq_true rfl⟩) (gm_preV hKK hKz hPm (va_recv hKz hPm (ci := 6) (q0 := 0) rfl mw_0)) rfl rfl hl.1 rfl (lv_room (Nat.le_of_ble_eq_true rfl)) dL_law_562 ⟨(show 125 + i + 0 ≤ 601024 by omega), (show 7298 + 6 * i + 0 ≤ 7293034 by omega)⟩) hS (fun q _ h => hAm q h) hAm (fun r N' t H1 locs ht hvm hw hB hz1 hk1 hS => ?_)
  obtain ⟨h1, h2⟩ := hw
  subst h1 h2
  rw [ht] at hB
  have hPm : va_P (dC, dI) vwCl (mW cI cZ am q'.2) H1 := hB
  replace hPx := lw_k hPx hk1 (lw_nx hC)
  replace hPo := lw_k hPo hk1 (lw_nq hC)
  clear hk1 hz1 hB ht
  generalize H1 = H at hPx hPm hPo hS ⊢
  refine lv_icmp_eq (tgt := 607) hx hb dL_law_565 (by decide) (fun c1 => ?_) (fun c1 => ?_)
  · refine W.widen (k := 125 + i + 1) (n := 7298 + 6 * i + 6) (by omega) (by omega) ?_
    exact kk _ _ _ _ _ _ hv' ⟨hPx, hPm, hPo, hS⟩ (lv_sub hl [0, 1, 2, 3, 4] rfl)
  · exact absurd heq c1
set_option maxHeartbeats 4000000 in
set_option maxRecDepth 100000 in
theorem law_15 {p : Program} {l : Launch} {e : Env} {s : State} {m : MethodId} {below : List Frame} {meth : Method} {c : Code} {b L : Nat} {xs : Nat → Int32} (C0 : lw_At p s m meth c b L xs) (hst : l.stackTraces = false) {dC : Nat → ClassId} {dI : Nat → Nat → Nat} {cI c9 cZ cJ : ClassId} {sa : Nat} {ad am : Nat → Nat} {o : Nat} (hC : LwC s dC dI cI c9 cZ cJ ad am o sa) (Iv : Nat → Mem → Mem → Prop) {i : Nat} (hi : i + 5 ≤ L) (hL : L ≤ 2560) {M N : Mem} (stp : ∀ v1 v2 : Int32, ∃ q q', F_X5_mail M v1 v2 = some q ∧ F_X6_mail N v1 v2 = some q' ∧ Iv (i + 5) M q'.2) (g : Nat → Int64) (H : Heap) (locs : List Loc) (ls : Array Slot) (hLS : LwS s dC dI cI c9 cZ cJ ad am o M N g H locs) (hl : lv_has ls 7 [(4, .int (nI i)), (3, .ref o), (2, .ref (am 0)), (1, .ref (ad 0)), (0, .ref b)]) (kk : ∀ (M' N' : Mem) (g' : Nat → Int64) (H : Heap) (locs : List Loc) (ls : Array Slot), Iv (i + 5) M' N' → LwS s dC dI cI c9 cZ cJ ad am o M' N' g' H locs → lv_has ls 7 [(4, .int (nI i)), (3, .ref o), (2, .ref (am 0)), (1, .ref (ad 0)), (0, .ref b)] → W p l e room_1 s m #[Value.ref b] below meth c H locs (125 + i + 1) (7298 + 6 * i + 6) (lw_Z below #[Value.ref b] s) (F0 m 607 ls [])) : W p l e room_1 s m #[Value.ref b] below meth c H locs (125 + i) (7298 + 6 * i) (lw_Z below #[Value.ref b] s) (F0 m 570 ls []) := by
  obtain ⟨hx, hb, hr, hml, hown, hts0, hX, hbl, hlocks, hgv⟩ := id C0
  have hts : ∀ w ∈ wsL_law, w.before #[Value.ref b] s = true := fun w h => hts0 w (wsL_law_in w h)
  have hbA : ¬ (fun q : Nat => s.heap.size ≤ q) b := Nat.not_le.mpr hbl
  obtain ⟨hKK, hKw, hKz, hKj, hE0, hIx, hIm, hxm, hxo, hmo, hax, ham, hao⟩ := id hC
  have hAx : ∀ q, Ac 100 ad q → s.heap.size ≤ q := fun q h => by obtain ⟨k, hk, rfl⟩ := h; exact hax k hk
  have hAm : ∀ q, Ac 24 am q → s.heap.size ≤ q := fun q h => by obtain ⟨k, hk, rfl⟩ := h; exact ham k hk
  have hj1 : vp_in (nI i + 1) L := vp_in_iff.mpr (by rw [show nI i + 1 = nI (i + 1) from nI_add i 1, ti_nI (by omega)]; omega)
  have hj2 : vp_in (nI i + 2) L := vp_in_iff.mpr (by rw [show nI i + 2 = nI (i + 2) from nI_add i 2, ti_nI (by omega)]; omega)
  have hj3 : vp_in (nI i + 3) L := vp_in_iff.mpr (by rw [show nI i + 3 = nI (i + 3) from nI_add i 3, ti_nI (by omega)]; omega)
  have hj4 : vp_in (nI i + 4) L := vp_in_iff.mpr (by rw [show nI i + 4 = nI (i + 4) from nI_add i 4, ti_nI (by omega)]; omega)
  obtain ⟨hPx, hPm, hPo, hS⟩ := hLS
  refine lv_aload_n hx hb dL_law_570 rfl (lv_at hl 3 rfl) ?_
  refine lv_aload_n hx hb dL_law_571 rfl (lv_at hl 4 rfl) ?_
  refine lv_iload hx hb dL_law_572 (lv_at hl 0 rfl) ?_
  refine lv_iconst (v := 1) hx hb dL_law_574 (by decide) ?_
  refine lv_iadd hx hb dL_law_575 ?_
  refine va_sld hx hb hX hbl hbA hS hj1 dL_law_576 ?_
  refine lv_aload_n hx hb dL_law_577 rfl (lv_at hl 4 rfl) ?_
  refine lv_iload hx hb dL_law_578 (lv_at hl 0 rfl) ?_
  refine lv_iconst (v := 2) hx hb dL_law_580 (by decide) ?_
  refine lv_iadd hx hb dL_law_581 ?_
  refine va_sld hx hb hX hbl hbA hS hj2 dL_law_582 ?_
  obtain ⟨q, q', hq, hq', hv'⟩ := stp (xs (nI i + 1).toNatClampNeg) (xs (nI i + 2).toNatClampNeg)
  refine vp_callSi (va_Run.run (va_runV (As := [.int (xs (nI i + 1).toNatClampNeg), .int (xs (nI i + 2).toNatClampNeg)]) (rest := []) ⟨hx, hb, hml, hown, hts⟩ (k_X5_mail l dC dI cI c9 ad hIx M (xs (nI i + 1).toNatClampNeg) (xs (nI i + 2).toNatClampNeg) q hq) (cwV 2 hts gL_law_X5_mail rfl rfl rfl (by decide +kernel) ⟨Nat.le_of_ble_eq_true rfl, Nat.le_of_ble_eq_true rfl⟩) (gP_preV hKK hKw hPx (va_recv hKw hPx (ci := 5) (q0 := 0) rfl cw_lt)) rfl rfl hl.1 rfl (lv_room (Nat.le_of_ble_eq_true rfl)) dL_law_583 ⟨(show 125 + i + 0 ≤ 601024 by omega), (show 7298 + 6 * i + 0 ≤ 7293034 by omega)⟩)) (fun r hr => ?_)
  replace hr := hr.symm
  subst hr
  refine lv_pop hx hb dL_law_586 rfl ?_
  refine lv_aload_n hx hb dL_law_587 rfl (lv_at hl 2 rfl) ?_
  refine lv_aload_n hx hb dL_law_588 rfl (lv_at hl 4 rfl) ?_
  refine lv_iload hx hb dL_law_589 (lv_at hl 0 rfl) ?_
  refine lv_iconst (v := 1) hx hb dL_law_591 (by decide) ?_
  refine lv_iadd hx hb dL_law_592 ?_
  refine va_sld hx hb hX hbl hbA hS hj1 dL_law_593 ?_
  refine lv_aload_n hx hb dL_law_594 rfl (lv_at hl 4 rfl) ?_
  refine lv_iload hx hb dL_law_595 (lv_at hl 0 rfl) ?_
  refine lv_iconst (v := 2) hx hb dL_law_597 (by decide) ?_
  refine lv_iadd hx hb dL_law_598 ?_
  refine va_sld hx hb hX hbl hbA hS hj2 dL_law_599 ?_
  refine va_calli (va_runV (As := [.int (xs (nI i + 1).toNatClampNeg), .int (xs (nI i + 2).toNatClampNeg)]) (rest := []) ⟨hx, hb, hml, hown, hts⟩ (k_X6_mail l dC dI cI cZ am hIm N (xs (nI i + 1).toNatClampNeg) (xs (nI i + 2).toNatClampNeg) q' hq') (cwV 2 hts gL_law_X6_mail rfl rfl rfl (by decide +kernel) ⟨Nat.le_of_ble_eq_true rfl, Nat.le_of_ble_eq_true rfl⟩) (gm_preV hKK hKz hPm (va_recv hKz hPm (ci := 6) (q0 := 0) rfl mw_0)) rfl rfl hl.1 rfl (lv_room (Nat.le_of_ble_eq_true rfl)) dL_law_600 ⟨(show 125 + i + 0 ≤ 601024 by omega), (show 7298 + 6 * i + 0 ≤ 7293034 by omega)⟩) hS (fun q _ h => hAm q h) hAm (fun r N' t H1 locs ht hvm hw hB hz1 hk1 hS => ?_)
  obtain ⟨h1, h2⟩ := hw
  subst h1 h2
  rw [ht] at hB
  have hPm : va_P (dC, dI) vwCl (mW cI cZ am q'.2) H1 := hB
  replace hPx := lw_k hPx hk1 (lw_nx hC)
  replace hPo := lw_k hPo hk1 (lw_nq hC)
  clear hk1 hz1 hB ht
  generalize H1 = H at hPx hPm hPo hS ⊢
  refine lv_pop hx hb dL_law_603 rfl ?_
  refine lv_goto (tgt := 607) hx hb dL_law_604 (by decide) ?_
  refine W.widen (k := 125 + i + 1) (n := 7298 + 6 * i + 6) (by omega) (by omega) ?_
  exact kk _ _ _ _ _ _ hv' ⟨hPx, hPm, hPo, hS⟩ (lv_sub hl [0, 1, 2, 3, 4] rfl)
