set_option maxHeartbeats 4000000 in
set_option maxRecDepth 100000 in
theorem law_8 {p : Program} {l : Launch} {e : Env} {s : State} {m : MethodId} {below : List Frame} {meth : Method} {c : Code} {b L : Nat} {xs : Nat → Int32} (C0 : lw_At p s m meth c b L xs) (hst : l.stackTraces = false) {dC : Nat → ClassId} {dI : Nat → Nat → Nat} {cI c9 cZ cJ : ClassId} {sa : Nat} {ad am : Nat → Nat} {o : Nat} (hC : LwC s dC dI cI c9 cZ cJ ad am o sa) (Iv : Nat → Mem → Mem → Prop) {i : Nat} (hi : i + 5 ≤ L) (hL : L ≤ 2560) {M N : Mem} (stp : ∀ v1 : Int32, ∃ q q', F_X5_again M v1 = some q ∧ F_X6_again N v1 = some q' ∧ Iv (i + 5) q.2 q'.2) (g : Nat → Int64) (H : Heap) (locs : List Loc) (ls : Array Slot) (hLS : LwS s dC dI cI c9 cZ cJ ad am o M N g H locs) (hl : lv_has ls 7 [(4, .int (nI i)), (3, .ref o), (2, .ref (am 0)), (1, .ref (ad 0)), (0, .ref b)]) (kk : ∀ (M' N' : Mem) (g' : Nat → Int64) (H : Heap) (locs : List Loc) (ls : Array Slot), Iv (i + 5) M' N' → LwS s dC dI cI c9 cZ cJ ad am o M' N' g' H locs → lv_has ls 7 [(4, .int (nI i)), (3, .ref o), (2, .ref (am 0)), (1, .ref (ad 0)), (0, .ref b)] → W p l e room_1 s m #[Value.ref b] below meth c H locs (125 + i + 1) (7298 + 6 * i + 6) (lw_Z below #[Value.ref b] s) (F0 m 607 ls [])) : W p l e room_1 s m #[Value.ref b] below meth c H locs (125 + i) (7298 + 6 * i) (lw_Z below #[Value.ref b] s) (F0 m 380 ls []) := by
  obtain ⟨hx, hb, hr, hml, hown, hts0, hX, hbl, hlocks, hgv⟩ := id C0
  have hts : ∀ w ∈ wsL_law, w.before #[Value.ref b] s = true := fun w h => hts0 w (wsL_law_in w h)
  have hbA : ¬ (fun q : Nat => s.heap.size ≤ q) b := Nat.not_le.mpr hbl
  obtain ⟨hKK, hKw, hKz, hKj, hE0, hIx, hIm, hxm, hxo, hmo, hax, ham, hao⟩ := id hC
  have hAx : ∀ q, Ac 100 ad q → s.heap.size ≤ q := fun q h => by obtain ⟨k, hk, rfl⟩ := h; exact hax k hk
  have hAm : ∀ q, Ac 24 am q → s.heap.size ≤ q := fun q h => by obtain ⟨k, hk, rfl⟩ := h; exact ham k hk
  have hj1 : vp_in (nI i + 1) L := vp_in_iff.mpr (by rw [show nI i + 1 = nI (i + 1) from nI_add i 1, ti_nI (by omega)]; omega)
  have hj2 : vp_in (nI i + 2) L := vp_in_iff.mpr (by rw [show nI i + 2 = nI (i + 2) from nI_add i 2, ti_nI (by omega)]; omega)
  have hj3 : vp_in (nI i + 3) L := vp_in_iff.mpr (by rw [show nI i + 3 = nI (i + 3) from nI_add i 3, ti_nI (by omega)]; omega)
  have hj4 : vp_in (nI i + 4) L := vp_in_iff.mpr (by rw [show nI i + 4 = nI (i + 4) from nI_add i 4, ti_nI (by omega)]; omega)
  obtain ⟨hPx, hPm, hPo, hS⟩ := hLS
  refine lv_aload_n hx hb dL_law_380 rfl (lv_at hl 3 rfl) ?_
  refine lv_aload_n hx hb dL_law_381 rfl (lv_at hl 4 rfl) ?_
  refine lv_iload hx hb dL_law_382 (lv_at hl 0 rfl) ?_
  refine lv_iconst (v := 1) hx hb dL_law_384 (by decide) ?_
  refine lv_iadd hx hb dL_law_385 ?_
  refine va_sld hx hb hX hbl hbA hS hj1 dL_law_386 ?_
  obtain ⟨q, q', hq, hq', hv'⟩ := stp (xs (nI i + 1).toNatClampNeg)
  refine va_calli (va_runV (As := [.int (xs (nI i + 1).toNatClampNeg)]) (rest := []) ⟨hx, hb, hml, hown, hts⟩ (k_X5_again l dC dI cI c9 ad hIx M (xs (nI i + 1).toNatClampNeg) q hq) (cwV 1 hts gL_law_X5_again rfl rfl rfl (by decide +kernel) ⟨Nat.le_of_ble_eq_true rfl, Nat.le_of_ble_eq_true rfl⟩) (gP_preV hKK hKw hPx (va_recv hKw hPx (ci := 5) (q0 := 0) rfl cw_lt)) rfl rfl hl.1 rfl (lv_room (Nat.le_of_ble_eq_true rfl)) dL_law_387 ⟨(show 125 + i + 0 ≤ 601024 by omega), (show 7298 + 6 * i + 0 ≤ 7293034 by omega)⟩) hS (fun q _ h => hAx q h) hAx (fun r M' t H1 locs ht hvm hw hB hz1 hk1 hS => ?_)
  obtain ⟨h1, h2⟩ := hw
  subst h1 h2
  rw [ht] at hB
  have hPx : va_P (dC, dI) vwCl (cW cI c9 ad q.2) H1 := hB
  replace hPm := lw_k hPm hk1 (lw_nm hC)
  replace hPo := lw_k hPo hk1 (lw_no hC)
  clear hk1 hz1 hB ht
  generalize H1 = H at hPx hPm hPo hS ⊢
  refine lv_pop hx hb dL_law_390 rfl ?_
  refine lv_aload_n hx hb dL_law_391 rfl (lv_at hl 2 rfl) ?_
  refine lv_aload_n hx hb dL_law_392 rfl (lv_at hl 4 rfl) ?_
  refine lv_iload hx hb dL_law_393 (lv_at hl 0 rfl) ?_
  refine lv_iconst (v := 1) hx hb dL_law_395 (by decide) ?_
  refine lv_iadd hx hb dL_law_396 ?_
  refine va_sld hx hb hX hbl hbA hS hj1 dL_law_397 ?_
  refine va_calli (va_runV (As := [.int (xs (nI i + 1).toNatClampNeg)]) (rest := []) ⟨hx, hb, hml, hown, hts⟩ (k_X6_again l dC dI cI cZ am hIm N (xs (nI i + 1).toNatClampNeg) q' hq') (cwV 1 hts gL_law_X6_again rfl rfl rfl (by decide +kernel) ⟨Nat.le_of_ble_eq_true rfl, Nat.le_of_ble_eq_true rfl⟩) (gm_preV hKK hKz hPm (va_recv hKz hPm (ci := 6) (q0 := 0) rfl mw_0)) rfl rfl hl.1 rfl (lv_room (Nat.le_of_ble_eq_true rfl)) dL_law_398 ⟨(show 125 + i + 0 ≤ 601024 by omega), (show 7298 + 6 * i + 0 ≤ 7293034 by omega)⟩) hS (fun q _ h => hAm q h) hAm (fun r N' t H1 locs ht hvm hw hB hz1 hk1 hS => ?_)
  obtain ⟨h1, h2⟩ := hw
  subst h1 h2
  rw [ht] at hB
  have hPm : va_P (dC, dI) vwCl (mW cI cZ am q'.2) H1 := hB
  replace hPx := lw_k hPx hk1 (lw_nx hC)
  replace hPo := lw_k hPo hk1 (lw_nq hC)
  clear hk1 hz1 hB ht
  generalize H1 = H at hPx hPm hPo hS ⊢
  refine lv_pop hx hb dL_law_401 rfl ?_
  refine lv_goto (tgt := 607) hx hb dL_law_402 (by decide) ?_
  refine W.widen (k := 125 + i + 1) (n := 7298 + 6 * i + 6) (by omega) (by omega) ?_
  exact kk _ _ _ _ _ _ hv' ⟨hPx, hPm, hPo, hS⟩ (lv_sub hl [0, 1, 2, 3, 4] rfl)
set_option maxHeartbeats 4000000 in
set_option maxRecDepth 100000 in
theorem law_9 {p : Program} {l : Launch} {e : Env} {s : State} {m : MethodId} {below : List Frame} {meth : Method} {c : Code} {b L : Nat} {xs : Nat → Int32} (C0 : lw_At p s m meth c b L xs) (hst : l.stackTraces = false) {dC : Nat → ClassId} {dI : Nat → Nat → Nat} {cI c9 cZ cJ : ClassId} {sa : Nat} {ad am : Nat → Nat} {o : Nat} (hC : LwC s dC dI cI c9 cZ cJ ad am o sa) (Iv : Nat → Mem → Mem → Prop) {i : Nat} (hi : i + 5 ≤ L) (hL : L ≤ 2560) {M N : Mem} (stp : ∃ q q', F_X5_close M  = some q ∧ F_X6_close N  = some q' ∧ Iv (i + 5) q.2 q'.2) (g : Nat → Int64) (H : Heap) (locs : List Loc) (ls : Array Slot) (hLS : LwS s dC dI cI c9 cZ cJ ad am o M N g H locs) (hl : lv_has ls 7 [(4, .int (nI i)), (3, .ref o), (2, .ref (am 0)), (1, .ref (ad 0)), (0, .ref b)]) (kk : ∀ (M' N' : Mem) (g' : Nat → Int64) (H : Heap) (locs : List Loc) (ls : Array Slot), Iv (i + 5) M' N' → LwS s dC dI cI c9 cZ cJ ad am o M' N' g' H locs → lv_has ls 7 [(4, .int (nI i)), (3, .ref o), (2, .ref (am 0)), (1, .ref (ad 0)), (0, .ref b)] → W p l e room_1 s m #[Value.ref b] below meth c H locs (125 + i + 1) (7298 + 6 * i + 6) (lw_Z below #[Value.ref b] s) (F0 m 607 ls [])) : W p l e room_1 s m #[Value.ref b] below meth c H locs (125 + i) (7298 + 6 * i) (lw_Z below #[Value.ref b] s) (F0 m 405 ls []) := by
  obtain ⟨hx, hb, hr, hml, hown, hts0, hX, hbl, hlocks, hgv⟩ := id C0
  have hts : ∀ w ∈ wsL_law, w.before #[Value.ref b] s = true := fun w h => hts0 w (wsL_law_in w h)
  have hbA : ¬ (fun q : Nat => s.heap.size ≤ q) b := Nat.not_le.mpr hbl
  obtain ⟨hKK, hKw, hKz, hKj, hE0, hIx, hIm, hxm, hxo, hmo, hax, ham, hao⟩ := id hC
  have hAx : ∀ q, Ac 100 ad q → s.heap.size ≤ q := fun q h => by obtain ⟨k, hk, rfl⟩ := h; exact hax k hk
  have hAm : ∀ q, Ac 24 am q → s.heap.size ≤ q := fun q h => by obtain ⟨k, hk, rfl⟩ := h; exact ham k hk
  have hj1 : vp_in (nI i + 1) L := vp_in_iff.mpr (by rw [show nI i + 1 = nI (i + 1) from nI_add i 1, ti_nI (by omega)]; omega)
  have hj2 : vp_in (nI i + 2) L := vp_in_iff.mpr (by rw [show nI i + 2 = nI (i + 2) from nI_add i 2, ti_nI (by omega)]; omega)
  have hj3 : vp_in (nI i + 3) L := vp_in_iff.mpr (by rw [show nI i + 3 = nI (i + 3) from nI_add i 3, ti_nI (by omega)]; omega)
  have hj4 : vp_in (nI i + 4) L := vp_in_iff.mpr (by rw [show nI i + 4 = nI (i + 4) from nI_add i 4, ti_nI (by omega)]; omega)
  obtain ⟨hPx, hPm, hPo, hS⟩ := hLS
  refine lv_aload_n hx hb dL_law_405 rfl (lv_at hl 3 rfl) ?_
  obtain ⟨q, q', hq, hq', hv'⟩ := stp 
  refine va_calli (va_runV (As := []) (rest := []) ⟨hx, hb, hml, hown, hts⟩ (k_X5_close l dC dI cI c9 ad hIx M  q hq) (cwV 0 hts gL_law_X5_close rfl rfl rfl (by decide +kernel) ⟨Nat.le_of_ble_eq_true rfl, Nat.le_of_ble_eq_true rfl⟩) (gP_preV hKK hKw hPx (va_recv hKw hPx (ci := 5) (q0 := 0) rfl cw_lt)) rfl rfl hl.1 rfl (lv_room (Nat.le_of_ble_eq_true rfl)) dL_law_406 ⟨(show 125 + i + 0 ≤ 601024 by omega), (show 7298 + 6 * i + 0 ≤ 7293034 by omega)⟩) hS (fun q _ h => hAx q h) hAx (fun r M' t H1 locs ht hvm hw hB hz1 hk1 hS => ?_)
  obtain ⟨h1, h2⟩ := hw
  subst h1 h2
  rw [ht] at hB
  have hPx : va_P (dC, dI) vwCl (cW cI c9 ad q.2) H1 := hB
  replace hPm := lw_k hPm hk1 (lw_nm hC)
  replace hPo := lw_k hPo hk1 (lw_no hC)
  clear hk1 hz1 hB ht
  generalize H1 = H at hPx hPm hPo hS ⊢
  refine lv_pop hx hb dL_law_409 rfl ?_
  refine lv_aload_n hx hb dL_law_410 rfl (lv_at hl 2 rfl) ?_
  refine va_calli (va_runV (As := []) (rest := []) ⟨hx, hb, hml, hown, hts⟩ (k_X6_close l dC dI cI cZ am hIm N  q' hq') (cwV 0 hts gL_law_X6_close rfl rfl rfl (by decide +kernel) ⟨Nat.le_of_ble_eq_true rfl, Nat.le_of_ble_eq_true rfl⟩) (gm_preV hKK hKz hPm (va_recv hKz hPm (ci := 6) (q0 := 0) rfl mw_0)) rfl rfl hl.1 rfl (lv_room (Nat.le_of_ble_eq_true rfl)) dL_law_411 ⟨(show 125 + i + 0 ≤ 601024 by omega), (show 7298 + 6 * i + 0 ≤ 7293034 by omega)⟩) hS (fun q _ h => hAm q h) hAm (fun r N' t H1 locs ht hvm hw hB hz1 hk1 hS => ?_)
  obtain ⟨h1, h2⟩ := hw
  subst h1 h2
  rw [ht] at hB
  have hPm : va_P (dC, dI) vwCl (mW cI cZ am q'.2) H1 := hB
  replace hPx := lw_k hPx hk1 (lw_nx hC)
  replace hPo := lw_k hPo hk1 (lw_nq hC)
  clear hk1 hz1 hB ht
  generalize H1 = H at hPx hPm hPo hS ⊢
  refine lv_pop hx hb dL_law_414 rfl ?_
  refine lv_goto (tgt := 607) hx hb dL_law_415 (by decide) ?_
  refine W.widen (k := 125 + i + 1) (n := 7298 + 6 * i + 6) (by omega) (by omega) ?_
  exact kk _ _ _ _ _ _ hv' ⟨hPx, hPm, hPo, hS⟩ (lv_sub hl [0, 1, 2, 3, 4] rfl)
set_option maxHeartbeats 4000000 in
set_option maxRecDepth 100000 in
theorem law_10 {p : Program} {l : Launch} {e : Env} {s : State} {m : MethodId} {below : List Frame} {meth : Method} {c : Code} {b L : Nat} {xs : Nat → Int32} (C0 : lw_At p s m meth c b L xs) (hst : l.stackTraces = false) {dC : Nat → ClassId} {dI : Nat → Nat → Nat} {cI c9 cZ cJ : ClassId} {sa : Nat} {ad am : Nat → Nat} {o : Nat} (hC : LwC s dC dI cI c9 cZ cJ ad am o sa) (Iv : Nat → Mem → Mem → Prop) {i : Nat} (hi : i + 5 ≤ L) (hL : L ≤ 2560) {M N : Mem} (stp : ∀ v1 v2 : Int32, ∃ q q', F_X5_state M v1 v2 = some q ∧ F_X6_state N v1 v2 = some q' ∧ Iv (i + 5) M q'.2) (g : Nat → Int64) (H : Heap) (locs : List Loc) (ls : Array Slot) (hLS : LwS s dC dI cI c9 cZ cJ ad am o M N g H locs) (hl : lv_has ls 7 [(4, .int (nI i)), (3, .ref o), (2, .ref (am 0)), (1, .ref (ad 0)), (0, .ref b)]) (kk : ∀ (M' N' : Mem) (g' : Nat → Int64) (H : Heap) (locs : List Loc) (ls : Array Slot), Iv (i + 5) M' N' → LwS s dC dI cI c9 cZ cJ ad am o M' N' g' H locs → lv_has ls 7 [(4, .int (nI i)), (3, .ref o), (2, .ref (am 0)), (1, .ref (ad 0)), (0, .ref b)] → W p l e room_1 s m #[Value.ref b] below meth c H locs (125 + i + 1) (7298 + 6 * i + 6) (lw_Z below #[Value.ref b] s) (F0 m 607 ls [])) : W p l e room_1 s m #[Value.ref b] below meth c H locs (125 + i) (7298 + 6 * i) (lw_Z below #[Value.ref b] s) (F0 m 418 ls []) := by
  obtain ⟨hx, hb, hr, hml, hown, hts0, hX, hbl, hlocks, hgv⟩ := id C0
  have hts : ∀ w ∈ wsL_law, w.before #[Value.ref b] s = true := fun w h => hts0 w (wsL_law_in w h)
  have hbA : ¬ (fun q : Nat => s.heap.size ≤ q) b := Nat.not_le.mpr hbl
  obtain ⟨hKK, hKw, hKz, hKj, hE0, hIx, hIm, hxm, hxo, hmo, hax, ham, hao⟩ := id hC
  have hAx : ∀ q, Ac 100 ad q → s.heap.size ≤ q := fun q h => by obtain ⟨k, hk, rfl⟩ := h; exact hax k hk
  have hAm : ∀ q, Ac 24 am q → s.heap.size ≤ q := fun q h => by obtain ⟨k, hk, rfl⟩ := h; exact ham k hk
  have hj1 : vp_in (nI i + 1) L := vp_in_iff.mpr (by rw [show nI i + 1 = nI (i + 1) from nI_add i 1, ti_nI (by omega)]; omega)
  have hj2 : vp_in (nI i + 2) L := vp_in_iff.mpr (by rw [show nI i + 2 = nI (i + 2) from nI_add i 2, ti_nI (by omega)]; omega)
  have hj3 : vp_in (nI i + 3) L := vp_in_iff.mpr (by rw [show nI i + 3 = nI (i + 3) from nI_add i 3, ti_nI (by omega)]; omega)
  have hj4 : vp_in (nI i + 4) L := vp_in_iff.mpr (by rw [show nI i + 4 = nI (i + 4) from nI_add i 4, ti_nI (by omega)]; omega)
  obtain ⟨hPx, hPm, hPo, hS⟩ := hLS
  refine lv_aload_n hx hb dL_law_418 rfl (lv_at hl 3 rfl) ?_
  refine lv_aload_n hx hb dL_law_419 rfl (lv_at hl 4 rfl) ?_
  refine lv_iload hx hb dL_law_420 (lv_at hl 0 rfl) ?_
  refine lv_iconst (v := 1) hx hb dL_law_422 (by decide) ?_
  refine lv_iadd hx hb dL_law_423 ?_
  refine va_sld hx hb hX hbl hbA hS hj1 dL_law_424 ?_
  refine lv_aload_n hx hb dL_law_425 rfl (lv_at hl 4 rfl) ?_
  refine lv_iload hx hb dL_law_426 (lv_at hl 0 rfl) ?_
  refine lv_iconst (v := 2) hx hb dL_law_428 (by decide) ?_
  refine lv_iadd hx hb dL_law_429 ?_
  refine va_sld hx hb hX hbl hbA hS hj2 dL_law_430 ?_
  obtain ⟨q, q', hq, hq', hv'⟩ := stp (xs (nI i + 1).toNatClampNeg) (xs (nI i + 2).toNatClampNeg)
  refine vp_callSi (va_Run.run (va_runV (As := [.int (xs (nI i + 1).toNatClampNeg), .int (xs (nI i + 2).toNatClampNeg)]) (rest := []) ⟨hx, hb, hml, hown, hts⟩ (k_X5_state l dC dI cI c9 ad hIx M (xs (nI i + 1).toNatClampNeg) (xs (nI i + 2).toNatClampNeg) q hq) (cwV 2 hts gL_law_X5_state rfl rfl rfl (by decide +kernel) ⟨Nat.le_of_ble_eq_true rfl, Nat.le_of_ble_eq_true rfl⟩) (gP_preV hKK hKw hPx (va_recv hKw hPx (ci := 5) (q0 := 0) rfl cw_lt)) rfl rfl hl.1 rfl (lv_room (Nat.le_of_ble_eq_true rfl)) dL_law_431 ⟨(show 125 + i + 0 ≤ 601024 by omega), (show 7298 + 6 * i + 0 ≤ 7293034 by omega)⟩)) (fun r hr => ?_)
  replace hr := hr.symm
  subst hr
  refine lv_pop hx hb dL_law_434 rfl ?_
  refine lv_aload_n hx hb dL_law_435 rfl (lv_at hl 2 rfl) ?_
  refine lv_aload_n hx hb dL_law_436 rfl (lv_at hl 4 rfl) ?_
  refine lv_iload hx hb dL_law_437 (lv_at hl 0 rfl) ?_
  refine lv_iconst (v := 1) hx hb dL_law_439 (by decide) ?_
  refine lv_iadd hx hb dL_law_440 ?_
  refine va_sld hx hb hX hbl hbA hS hj1 dL_law_441 ?_
  refine lv_aload_n hx hb dL_law_442 rfl (lv_at hl 4 rfl) ?_
  refine lv_iload hx hb dL_law_443 (lv_at hl 0 rfl) ?_
  refine lv_iconst (v := 2) hx hb dL_law_445 (by decide) ?_
  refine lv_iadd hx hb dL_law_446 ?_
  refine va_sld hx hb hX hbl hbA hS hj2 dL_law_447 ?_
  refine va_calli (va_runV (As := [.int (xs (nI i + 1).toNatClampNeg), .int (xs (nI i + 2).toNatClampNeg)]) (rest := []) ⟨hx, hb, hml, hown, hts⟩ (k_X6_state l dC dI cI cZ am hIm N (xs (nI i + 1).toNatClampNeg) (xs (nI i + 2).toNatClampNeg) q' hq') (cwV 2 hts gL_law_X6_state rfl rfl rfl (by decide +kernel) ⟨Nat.le_of_ble_eq_true rfl, Nat.le_of_ble_eq_true rfl⟩) (gm_preV hKK hKz hPm (va_recv hKz hPm (ci := 6) (q0 := 0) rfl mw_0)) rfl rfl hl.1 rfl (lv_room (Nat.le_of_ble_eq_true rfl)) dL_law_448 ⟨(show 125 + i + 0 ≤ 601024 by omega), (show 7298 + 6 * i + 0 ≤ 7293034 by omega)⟩) hS (fun q _ h => hAm q h) hAm (fun r N' t H1 locs ht hvm hw hB hz1 hk1 hS => ?_)
  obtain ⟨h1, h2⟩ := hw
  subst h1 h2
  rw [ht] at hB
  have hPm : va_P (dC, dI) vwCl (mW cI cZ am q'.2) H1 := hB
  replace hPx := lw_k hPx hk1 (lw_nx hC)
  replace hPo := lw_k hPo hk1 (lw_nq hC)
  clear hk1 hz1 hB ht
  generalize H1 = H at hPx hPm hPo hS ⊢
  refine lv_pop hx hb dL_law_451 rfl ?_
  refine lv_goto (tgt := 607) hx hb dL_law_452 (by decide) ?_
  refine W.widen (k := 125 + i + 1) (n := 7298 + 6 * i + 6) (by omega) (by omega) ?_
  exact kk _ _ _ _ _ _ hv' ⟨hPx, hPm, hPo, hS⟩ (lv_sub hl [0, 1, 2, 3, 4] rfl)
set_option maxHeartbeats 4000000 in
set_option maxRecDepth 100000 in
theorem law_11 {p : Program} {l : Launch} {e : Env} {s : State} {m : MethodId} {below : List Frame} {meth : Method} {c : Code} {b L : Nat} {xs : Nat → Int32} (C0 : lw_At p s m meth c b L xs) (hst : l.stackTraces = false) {dC : Nat → ClassId} {dI : Nat → Nat → Nat} {cI c9 cZ cJ : ClassId} {sa : Nat} {ad am : Nat → Nat} {o : Nat} (hC : LwC s dC dI cI c9 cZ cJ ad am o sa) (Iv : Nat → Mem → Mem → Prop) {i : Nat} (hi : i + 5 ≤ L) (hL : L ≤ 2560) {M N : Mem} (stp : ∀ v1 : Int32, ∃ q q', F_X5_has M v1 = some q ∧ F_X6_has N v1 = some q' ∧ Iv (i + 5) M q'.2) (g : Nat → Int64) (H : Heap) (locs : List Loc) (ls : Array Slot) (hLS : LwS s dC dI cI c9 cZ cJ ad am o M N g H locs) (hl : lv_has ls 7 [(4, .int (nI i)), (3, .ref o), (2, .ref (am 0)), (1, .ref (ad 0)), (0, .ref b)]) (kk : ∀ (M' N' : Mem) (g' : Nat → Int64) (H : Heap) (locs : List Loc) (ls : Array Slot), Iv (i + 5) M' N' → LwS s dC dI cI c9 cZ cJ ad am o M' N' g' H locs → lv_has ls 7 [(4, .int (nI i)), (3, .ref o), (2, .ref (am 0)), (1, .ref (ad 0)), (0, .ref b)] → W p l e room_1 s m #[Value.ref b] below meth c H locs (125 + i + 1) (7298 + 6 * i + 6) (lw_Z below #[Value.ref b] s) (F0 m 607 ls [])) : W p l e room_1 s m #[Value.ref b] below meth c H locs (125 + i) (7298 + 6 * i) (lw_Z below #[Value.ref b] s) (F0 m 455 ls []) := by
  obtain ⟨hx, hb, hr, hml, hown, hts0, hX, hbl, hlocks, hgv⟩ := id C0
  have hts : ∀ w ∈ wsL_law, w.before #[Value.ref b] s = true := fun w h => hts0 w (wsL_law_in w h)
  have hbA : ¬ (fun q : Nat => s.heap.size ≤ q) b := Nat.not_le.mpr hbl
  obtain ⟨hKK, hKw, hKz, hKj, hE0, hIx, hIm, hxm, hxo, hmo, hax, ham, hao⟩ := id hC
  have hAx : ∀ q, Ac 100 ad q → s.heap.size ≤ q := fun q h => by obtain ⟨k, hk, rfl⟩ := h; exact hax k hk
  have hAm : ∀ q, Ac 24 am q → s.heap.size ≤ q := fun q h => by obtain ⟨k, hk, rfl⟩ := h; exact ham k hk
  have hj1 : vp_in (nI i + 1) L := vp_in_iff.mpr (by rw [show nI i + 1 = nI (i + 1) from nI_add i 1, ti_nI (by omega)]; omega)
  have hj2 : vp_in (nI i + 2) L := vp_in_iff.mpr (by rw [show nI i + 2 = nI (i + 2) from nI_add i 2, ti_nI (by omega)]; omega)
  have hj3 : vp_in (nI i + 3) L := vp_in_iff.mpr (by rw [show nI i + 3 = nI (i + 3) from nI_add i 3, ti_nI (by omega)]; omega)
  have hj4 : vp_in (nI i + 4) L := vp_in_iff.mpr (by rw [show nI i + 4 = nI (i + 4) from nI_add i 4, ti_nI (by omega)]; omega)
  obtain ⟨hPx, hPm, hPo, hS⟩ := hLS
  refine lv_aload_n hx hb dL_law_455 rfl (lv_at hl 3 rfl) ?_
  refine lv_aload_n hx hb dL_law_456 rfl (lv_at hl 4 rfl) ?_
  refine lv_iload hx hb dL_law_457 (lv_at hl 0 rfl) ?_
  refine lv_iconst (v := 1) hx hb dL_law_459 (by decide) ?_
  refine lv_iadd hx hb dL_law_460 ?_
  refine va_sld hx hb hX hbl hbA hS hj1 dL_law_461 ?_
  obtain ⟨q, q', hq, hq', hv'⟩ := stp (xs (nI i + 1).toNatClampNeg)
  refine vp_callSi (va_Run.run (va_runV (As := [.int (xs (nI i + 1).toNatClampNeg)]) (rest := []) ⟨hx, hb, hml, hown, hts⟩ (k_X5_has l dC dI cI c9 ad hIx M (xs (nI i + 1).toNatClampNeg) q hq) (cwV 1 hts gL_law_X5_has rfl rfl rfl (by decide +kernel) ⟨Nat.le_of_ble_eq_true rfl, Nat.le_of_ble_eq_true rfl⟩) (gP_preV hKK hKw hPx (va_recv hKw hPx (ci := 5) (q0 := 0) rfl cw_lt)) rfl rfl hl.1 rfl (lv_room (Nat.le_of_ble_eq_true rfl)) dL_law_462 ⟨(show 125 + i + 0 ≤ 601024 by omega), (show 7298 + 6 * i + 0 ≤ 7293034 by omega)⟩)) (fun r hr => ?_)
  replace hr := hr.symm
  subst hr
  refine lv_pop hx hb dL_law_465 rfl ?_
  refine lv_aload_n hx hb dL_law_466 rfl (lv_at hl 2 rfl) ?_
  refine lv_aload_n hx hb dL_law_467 rfl (lv_at hl 4 rfl) ?_
  refine lv_iload hx hb dL_law_468 (lv_at hl 0 rfl) ?_
  refine lv_iconst (v := 1) hx hb dL_law_470 (by decide) ?_
  refine lv_iadd hx hb dL_law_471 ?_
  refine va_sld hx hb hX hbl hbA hS hj1 dL_law_472 ?_
  refine va_calli (va_runV (As := [.int (xs (nI i + 1).toNatClampNeg)]) (rest := []) ⟨hx, hb, hml, hown, hts⟩ (k_X6_has l dC dI cI cZ am hIm N (xs (nI i + 1).toNatClampNeg) q' hq') (cwV 1 hts gL_law_X6_has rfl rfl rfl (by decide +kernel) ⟨Nat.le_of_ble_eq_true rfl, Nat.le_of_ble_eq_true rfl⟩) (gm_preV hKK hKz hPm (va_recv hKz hPm (ci := 6) (q0 := 0) rfl mw_0)) rfl rfl hl.1 rfl (lv_room (Nat.le_of_ble_eq_true rfl)) dL_law_473 ⟨(show 125 + i + 0 ≤ 601024 by omega), (show 7298 + 6 * i + 0 ≤ 7293034 by omega)⟩) hS (fun q _ h => hAm q h) hAm (fun r N' t H1 locs ht hvm hw hB hz1 hk1 hS => ?_)
  obtain ⟨h1, h2⟩ := hw
  subst h1 h2
  rw [ht] at hB
  have hPm : va_P (dC, dI) vwCl (mW cI cZ am q'.2) H1 := hB
  replace hPx := lw_k hPx hk1 (lw_nx hC)
  replace hPo := lw_k hPo hk1 (lw_nq hC)
  clear hk1 hz1 hB ht
  generalize H1 = H at hPx hPm hPo hS ⊢
  refine lv_pop hx hb dL_law_476 rfl ?_
  refine lv_goto (tgt := 607) hx hb dL_law_477 (by decide) ?_
  refine W.widen (k := 125 + i + 1) (n := 7298 + 6 * i + 6) (by omega) (by omega) ?_
  exact kk _ _ _ _ _ _ hv' ⟨hPx, hPm, hPo, hS⟩ (lv_sub hl [0, 1, 2, 3, 4] rfl)
