set_option maxHeartbeats 4000000 in
set_option maxRecDepth 100000 in
theorem whole_start {p : Program} {e : Env} {s : State} {m : MethodId} {below : List Frame} {meth : Method} {c : Code} (l : Launch) (hst : l.stackTraces = false) {b L : Nat} {xs : Nat → Int32} (hL : L ≤ 2560) (C0 : lw_At p s m meth c b L xs) : W p l e room_1 s m #[Value.ref b] below meth c s.heap [] 0 0 (lw_Z below #[Value.ref b] s) (entryFrame m ([Value.ref b] : List Value).toArray 7) := by
  obtain ⟨hx, hb, hr, hml, hown, hts0, hX, hbl, hlocks, hgv⟩ := id C0
  have hts : ∀ w ∈ wsL_law, w.before #[Value.ref b] s = true := fun w h => hts0 w (wsL_law_in w h)
  have hA : ∀ q : Nat, s.heap.size ≤ q → (fun q : Nat => s.heap.size ≤ q) q := fun _ h => h
  have hbA : ¬ (fun q : Nat => s.heap.size ≤ q) b := Nat.not_le.mpr hbl
  obtain ⟨c0, iS0, hKn0⟩ := u_known (C := RX0) (T := TX0) (N := 1) (n := 1) hts inlX0 (hts (.instantiable RX0 1) (by decide +kernel))
  obtain ⟨c1, iS1, hKn1⟩ := u_known (C := RX1) (T := TX1) (N := 3) (n := 3) hts inlX1 (hts (.instantiable RX1 3) (by decide +kernel))
  obtain ⟨c2, iS2, hKn2⟩ := u_known (C := RX2) (T := TX2) (N := 3) (n := 3) hts inlX2 (hts (.instantiable RX2 3) (by decide +kernel))
  obtain ⟨c3, iS3, hKn3⟩ := u_known (C := RX3) (T := TX3) (N := 4) (n := 4) hts inlX3 (hts (.instantiable RX3 4) (by decide +kernel))
  obtain ⟨c4, iS4, hKn4⟩ := u_known (C := RX4) (T := TX4) (N := 12) (n := 12) hts inlX4 (hts (.instantiable RX4 12) (by decide +kernel))
  obtain ⟨c5, iS5, hKn5⟩ := u_known (C := RX5) (T := TX5) (N := 5) (n := 5) hts inlX5 (hts (.instantiable RX5 5) (by decide +kernel))
  obtain ⟨c6, iS6, hKn6⟩ := u_known (C := RX6) (T := TX6) (N := 29) (n := 29) hts inlX6 (hts (.instantiable RX6 29) (by decide +kernel))
  obtain ⟨dC, dI, hKc⟩ : ∃ (dC : Nat → ClassId) (dI : Nat → Nat → Nat), ∀ (k : Nat) (q : vw_C), vwCl[k]? = some q → u_Kn s q.1 q.2.1 q.2.2 (dC k) (dI k) := by
    refine ⟨fun k => if k = 0 then c0 else if k = 1 then c1 else if k = 2 then c2 else if k = 3 then c3 else if k = 4 then c4 else if k = 5 then c5 else c6, fun k => if k = 0 then iS0 else if k = 1 then iS1 else if k = 2 then iS2 else if k = 3 then iS3 else if k = 4 then iS4 else if k = 5 then iS5 else iS6, ?_⟩
    intro k q hq
    match k, hq with
    | 0, hq => cases hq; exact hKn0
    | 1, hq => cases hq; exact hKn1
    | 2, hq => cases hq; exact hKn2
    | 3, hq => cases hq; exact hKn3
    | 4, hq => cases hq; exact hKn4
    | 5, hq => cases hq; exact hKn5
    | 6, hq => cases hq; exact hKn6
    | k + 7, hq => simp [vwCl] at hq
  obtain ⟨cI, kA, comp, hcI, hkA, hkd⟩ := Cond.arrayClass_spec (hts (.arrayClass .int) (by decide +kernel))
  have hKK : kb dC dI cI s := by
    refine ⟨⟨hKc, fun k q h => ?_⟩, hcI, nw_of (fun w hw => hts0 w (nwL_in w hw))⟩
    have hz : k < 1 := (List.getElem?_eq_some_iff.mp h).1
    rw [show k = 0 by omega] at h
    cases h
    exact ⟨fun n z => ⟨fun k h => (by cases h), kA, hkA, comp, hkd⟩, hcI⟩
  have hAO : va_AO RX4 s := va_AO.of (hts0 (.arrayOver (.object RX4)) (by decide +kernel))
  have hfl := flat_of_before _ hgv
  obtain ⟨sa, c9, cell9, k9, q1, -⟩ := Cond.exactly_spec (args := #[Value.ref b]) (first := s) (o := none) (s := s) (idx := []) (t := .string RX5 139) (cls := "java/lang/String") (hfl _ (by decide +kernel))
  have hnA : ∀ a : Nat, a < s.heap.size → ¬ (fun q : Nat => s.heap.size ≤ q) a := fun a h q => absurd h (Nat.not_lt.mpr q)
  have hE0 : cxE s.heap.size sa s s.heap := ⟨vk_R.of (hts0 (.stringRef RX5 139 "no such copy") (by decide +kernel)) q1, vx_Zqof (hts0 (.laysStatic Bundle.tN "UNASSIGNED_STACK" Bundle.steD) (by decide +kernel)) (hts0 (.initialized Bundle.tN) (by decide +kernel)) (hfl _ (by decide +kernel)) hnA, vx_Zqof (hts0 (.laysStatic Bundle.tN "SUPPRESSED_SENTINEL" Bundle.listD) (by decide +kernel)) (hts0 (.initialized Bundle.tN) (by decide +kernel)) (hfl _ (by decide +kernel)) hnA, fun w hw => va_Nw.of (cxB_t w hw) (hts0 w (cxB_l w hw))⟩
  have hS : va_S (fun q : Nat => s.heap.size ≤ q) s.heap s.heap [] := va_S.rf
  have hP : va_P (dC, dI) vwCl [] s.heap := fun k q h => by simp at h
  have hD : va_D (fun q : Nat => s.heap.size ≤ q) [] := ⟨fun i j p q h => by simp at h, fun k q h => by simp at h⟩
  have hl := lv_entry ([.ref b]) (n := 7) (Nat.le_of_ble_eq_true rfl)
  rw [lg_entry_eq]
  generalize (lg_sl ([.ref b]) ++ List.replicate (7 - (lg_sl ([.ref b])).length) Slot.unset).toArray = ls at hl ⊢
  have hl : lv_has ls 7 [(0, .ref b)] := hl
  refine va_new (ci := 5) (fs := [.null, .int 0, .null, .null, .null]) (C := RX5) (T := TX5) (N := 5) hx hb hts inlX5 tyX5 tyX5_ok hown (hts (.classLink RL 8 RX5) (by decide +kernel)) (hts (.instantiable RX5 5) (by decide +kernel)) (hts (.initialized RX5) (by decide +kernel)) hKK.1 hP hD hS hA rfl (fun j hj => by rcases (show j = 0 ∨ j = 1 ∨ j = 2 ∨ j = 3 ∨ j = 4 by omega) with rfl | rfl | rfl | rfl | rfl <;> rfl) (show 0 + 1 ≤ 601024 by omega) (show 0 + 5 ≤ 7293034 by omega) dL_law_0 (fun x H hP hD hS => ?_)
  have hP : va_P (dC, dI) vwCl [(x, .inr (5, [.null, .int 0, .null, .null, .null]))] H := hP
  have hD : va_D (fun q : Nat => s.heap.size ≤ q) [(x, .inr (5, [.null, .int 0, .null, .null, .null]))] := hD
  have hFc := va_free (wc := [(x, .inr (5, [.null, .int 0, .null, .null, .null]))]) hD hS hA [0] rfl
  refine lv_dup hx hb dL_law_3 rfl ?_
  refine va_callv (va_runI (As := []) (rest := [.ref x]) ⟨hx, hb, hml, hown, hts⟩ (k_LT_init l dC dI cI H.size x) (cwI 0 hts gL_law_X5_init rfl rfl rfl (hts (.initialized RX5) (by decide +kernel)) (hts (.methodLink RL 15 yX5_init) (by decide +kernel)) (hts (.instanceMethod yX5_init) (by decide +kernel)) rfl (by decide +kernel) ⟨Nat.le_of_ble_eq_true rfl, Nat.le_of_ble_eq_true rfl⟩) (uPa_preS hKK hAO hP hD) rfl rfl hl.1 rfl (lv_room (Nat.le_of_ble_eq_true rfl)) dL_law_4 ⟨(show 0 + 1 + 99 ≤ 601024 by omega), (show 0 + 5 + 1963 ≤ 7293034 by omega)⟩) hS (fun q _ h => hFc q h) hFc (fun u t H1 locs ht hvm hw hB hz1 hk1 hS => ?_)
  obtain ⟨c9, ad⟩ := u
  obtain ⟨⟨hP1, hD1⟩, hKw⟩ := hB
  rw [ht] at hP1
  have hKw : va_K (dC, dI) vwCl [(cI, .int), (c9, .object RX4)] s := va_K.moved hvm.symm hKw
  obtain ⟨hx0, hIx⟩ := hw
  have hx0 : ad 0 = x := hx0
  have hIx : Inj 100 ad := hIx
  obtain ⟨hPx, hDx⟩ := va_join (wr := []) (w1 := cW cI c9 ad M0) hP hD [0] [] rfl rfl (by decide) (by decide) hk1 hFc hP1 hD1
  have hPx : va_P (dC, dI) vwCl (cW cI c9 ad M0) H1 := hPx
  have hDx : va_D (fun q : Nat => s.heap.size ≤ q) (cW cI c9 ad M0) := hDx
  clear hP hD hP1 hD1 hk1 hFc ht
  generalize H1 = H at hPx hS ⊢
  rw [← hx0]
  refine lv_astore_n (lv' := [(1, .ref (ad 0)), (0, .ref b)]) hx hb dL_law_7 rfl hl (by decide) rfl (fun ls hl => ?_)
  refine va_new (ci := 6) (fs := [.int 0, .int 0, .null, .null, .null, .null, .null, .null, .null, .null, .null, .null, .null, .int 0, .null, .null, .null, .null, .null, .null, .null, .null, .int 0, .int 0, .null, .null, .null, .int 0, .null]) (C := RX6) (T := TX6) (N := 29) hx hb hts inlX6 tyX6 tyX6_ok hown (hts (.classLink RL 16 RX6) (by decide +kernel)) (hts (.instantiable RX6 29) (by decide +kernel)) (hts (.initialized RX6) (by decide +kernel)) hKK.1 hPx hDx hS hA rfl (fun j hj => by rcases (show j = 0 ∨ j = 1 ∨ j = 2 ∨ j = 3 ∨ j = 4 ∨ j = 5 ∨ j = 6 ∨ j = 7 ∨ j = 8 ∨ j = 9 ∨ j = 10 ∨ j = 11 ∨ j = 12 ∨ j = 13 ∨ j = 14 ∨ j = 15 ∨ j = 16 ∨ j = 17 ∨ j = 18 ∨ j = 19 ∨ j = 20 ∨ j = 21 ∨ j = 22 ∨ j = 23 ∨ j = 24 ∨ j = 25 ∨ j = 26 ∨ j = 27 ∨ j = 28 by omega) with rfl | rfl | rfl | rfl | rfl | rfl | rfl | rfl | rfl | rfl | rfl | rfl | rfl | rfl | rfl | rfl | rfl | rfl | rfl | rfl | rfl | rfl | rfl | rfl | rfl | rfl | rfl | rfl | rfl <;> rfl) (show 0 + 1 + 99 + 1 ≤ 601024 by omega) (show 0 + 5 + 1963 + 29 ≤ 7293034 by omega) dL_law_8 (fun y H hP hD hS => ?_)
  have hxy : ∀ k, k < 100 → ad k ≠ y := fun k hk => dapX hD (i := k) (j := 0) (cwl_get hk) rfl
  replace hPx := wapL hP
  have hPy := wapR hP
  have hDy := dapR hD
  have hyA : s.heap.size ≤ y := hDy.2 0 _ rfl
  have hFc := lw_fA (e := .inr (6, [.int 0, .int 0, .null, .null, .null, .null, .null, .null, .null, .null, .null, .null, .null, .int 0, .null, .null, .null, .null, .null, .null, .null, .null, .int 0, .int 0, .null, .null, .null, .int 0, .null])) hyA hS
  refine lv_dup hx hb dL_law_11 rfl ?_
  refine va_callv (va_runI (As := []) (rest := [.ref y]) ⟨hx, hb, hml, hown, hts⟩ (k_M_init l dC dI cI H.size y) (cwI 0 hts gL_law_X6_init rfl rfl rfl (hts (.initialized RX6) (by decide +kernel)) (hts (.methodLink RL 18 yX6_init) (by decide +kernel)) (hts (.instanceMethod yX6_init) (by decide +kernel)) rfl (by decide +kernel) ⟨Nat.le_of_ble_eq_true rfl, Nat.le_of_ble_eq_true rfl⟩) (uP_preS hKK hPy hDy) rfl rfl hl.1 rfl (lv_room (Nat.le_of_ble_eq_true rfl)) dL_law_12 ⟨(show 0 + 1 + 99 + 1 + 23 ≤ 601024 by omega), (show 0 + 5 + 1963 + 29 + 5300 ≤ 7293034 by omega)⟩) hS (fun q _ h => hFc q h) hFc (fun u t H1 locs ht hvm hw hB hz1 hk1 hS => ?_)
  obtain ⟨cZ, am⟩ := u
  obtain ⟨⟨hP1, hD1⟩, hKz⟩ := hB
  rw [ht] at hP1
  have hKz : va_K (dC, dI) vwCl [(cI, .int), (cZ, .boolean)] s := va_K.moved hvm.symm hKz
  obtain ⟨hy0, hIm⟩ := hw
  have hy0 : am 0 = y := hy0
  have hIm : Inj 24 am := hIm
  have hPm : va_P (dC, dI) vwCl (mW cI cZ am (fun _ _ => 0)) H1 := hP1
  have hDm : va_D (fun q : Nat => s.heap.size ≤ q) (mW cI cZ am (fun _ _ => 0)) := hD1.weaken (fun k q _ h => hFc q.1 h)
  have hxm : ∀ i j, i < 100 → j < 24 → ad i ≠ am j := by
    intro i j hi hj e
    have h1 := hD1.2 j _ (cwl_get hj)
    have h2 := (hPx i _ (cwl_get hi)).lt
    exact lw_nA (hxy i hi) h2 (by rw [e]; exact h1)
  replace hPx := lw_k hPx hk1 (fun k q hk => by
    have hlt := (hPx k q hk).lt
    obtain ⟨h1, rfl⟩ := cwl_inv hk
    exact lw_nA (hxy k h1) hlt)
  clear hP hD hP1 hD1 hk1 hFc ht hPy hDy
  generalize H1 = H at hPx hPm hS ⊢
  rw [← hy0]
  refine lv_astore_n (lv' := [(2, .ref (am 0)), (1, .ref (ad 0)), (0, .ref b)]) hx hb dL_law_15 rfl hl (by decide) rfl (fun ls hl => ?_)
  refine lv_iconst (v := 1) hx hb dL_law_16 (by decide) ?_
  have hPa := hPx.app hPm
  have hDa : va_D (fun q : Nat => s.heap.size ≤ q) (cW cI c9 ad M0 ++ mW cI cZ am (fun _ _ => 0)) := hDx.app hDm (fun i j p q hi hj => by
    obtain ⟨h1, rfl⟩ := cwl_inv hi
    obtain ⟨h2, rfl⟩ := cwl_inv hj
    exact hxm i j h1 h2)
  refine va_newa (atype := .long) (ty := .long) hx hb (hts (.arrayClass .long) (by decide +kernel)) rfl hKK.1 hPa hDa hS hA (N' := 1) (a0 := (1, .inr (.inl (fun _ => 0)))) (fun _ => rfl) (by decide) (by decide) (by decide) (show 0 + 1 + 99 + 1 + 23 + 1 ≤ 601024 by omega) (show 0 + 5 + 1963 + 29 + 5300 + 1 ≤ 7293034 by omega) dL_law_17 (fun o cJ H hKj hP hD hS => ?_)
  have hKj : va_K (dC, dI) vwCl [(cI, .int), (cJ, .long)] s := hKj
  replace hPx := wapL (wapL hP)
  replace hPm := wapR (wapL hP)
  have hPo := wapR hP
  have hoA : s.heap.size ≤ o := (dapR hD).2 0 _ rfl
  have hxo : ∀ i, i < 100 → ad i ≠ o := fun i hi => dapX hD (i := i) (j := 0) (p := (ad i, enc cI c9 ad M0 i)) (by rw [List.getElem?_append_left (by rw [cwl_len]; exact hi)]; exact cwl_get hi) rfl
  have hmo : ∀ j, j < 24 → am j ≠ o := fun j hj => dapX hD (i := 100 + j) (j := 0) (p := (am j, encM cI cZ am (fun _ _ => 0) j)) (by rw [List.getElem?_append_right (by rw [cwl_len]; omega), cwl_len, show 100 + j - 100 = j by omega]; exact cwl_get hj) rfl
  refine lv_astore_n (lv' := [(3, .ref o), (2, .ref (am 0)), (1, .ref (ad 0)), (0, .ref b)]) hx hb dL_law_19 rfl hl (by decide) rfl (fun ls hl => ?_)
  refine lv_iconst (v := 0) hx hb dL_law_20 (by decide) ?_
  refine lv_istore (lv' := [(4, .int 0), (3, .ref o), (2, .ref (am 0)), (1, .ref (ad 0)), (0, .ref b)]) hx hb dL_law_21 hl (by decide) rfl (fun ls hl => ?_)
  have hC : LwC s dC dI cI c9 cZ cJ ad am o sa := ⟨hKK, hKw, hKz, hKj, hE0, hIx, hIm, hxm, hxo, hmo, fun i hi => hDx.2 i _ (cwl_get hi), fun j hj => hDm.2 j _ (cwl_get hj), hoA⟩
  refine W.widen (k := 125 + 0) (n := 7298 + 6 * 0) (by omega) (by omega) ?_
  exact law_loop C0 hst hC Ivr hL iv_work iv_wants iv_sends iv_loses iv_turn iv_run iv_ring iv_interrupt iv_again iv_close iv_state iv_has iv_line iv_value iv_log iv_mail L 0 (by omega) (by omega) M0 (fun _ _ => 0) (fun _ => 0) H _ ls ivr_0 ⟨hPx, hPm, hPo, hS⟩ hl
