set_option maxHeartbeats 4000000 in
set_option maxRecDepth 100000 in
theorem law_0 {p : Program} {l : Launch} {e : Env} {s : State} {m : MethodId} {below : List Frame} {meth : Method} {c : Code} {b L : Nat} {xs : Nat → Int32} (C0 : lw_At p s m meth c b L xs) (hst : l.stackTraces = false) {dC : Nat → ClassId} {dI : Nat → Nat → Nat} {cI c9 cZ cJ : ClassId} {sa : Nat} {ad am : Nat → Nat} {o : Nat} (hC : LwC s dC dI cI c9 cZ cJ ad am o sa) (Iv : Nat → Mem → Mem → Prop) {i : Nat} (hi : i + 5 ≤ L) (hL : L ≤ 2560) {M N : Mem} (stp : ∀ v1 v2 : Int32, ∃ q q', F_X5_work M v1 v2 = some q ∧ F_X6_work N v1 v2 = some q' ∧ Iv (i + 5) q.2 q'.2) (g : Nat → Int64) (H : Heap) (locs : List Loc) (ls : Array Slot) (hLS : LwS s dC dI cI c9 cZ cJ ad am o M N g H locs) (hl : lv_has ls 7 [(4, .int (nI i)), (3, .ref o), (2, .ref (am 0)), (1, .ref (ad 0)), (0, .ref b)]) (kk : ∀ (M' N' : Mem) (g' : Nat → Int64) (H : Heap) (locs : List Loc) (ls : Array Slot), Iv (i + 5) M' N' → LwS s dC dI cI c9 cZ cJ ad am o M' N' g' H locs → lv_has ls 7 [(4, .int (nI i)), (3, .ref o), (2, .ref (am 0)), (1, .ref (ad 0)), (0, .ref b)] → W p l e room_1 s m #[Value.ref b] below meth c H locs (125 + i + 1) (7298 + 6 * i + 6) (lw_Z below #[Value.ref b] s) (F0 m 607 ls [])) : W p l e room_1 s m #[Value.ref b] below meth c H locs (125 + i) (7298 + 6 * i) (lw_Z below #[Value.ref b] s) (F0 m 116 ls []) := by
  obtain ⟨hx, hb, hr, hml, hown, hts0, hX, hbl, hlocks, hgv⟩ := id C0
  have hts : ∀ w ∈ wsL_law, w.before #[Value.ref b] s = true := fun w h => hts0 w (wsL_law_in w h)
  have hbA : ¬ (fun q : Nat => s.heap.size ≤ q) b := Nat.not_le.mpr hbl
  obtain ⟨hKK, hKw, hKz, hKj, hE0, hIx, hIm, hxm, hxo, hmo, hax, ham, hao⟩ := id hC
  have hAx : ∀ q, Ac 100 ad q → s.heap.size ≤ q := fun q h => by obtain ⟨k, hk, rfl⟩ := h; exact hax k hk
  have hAm : ∀ q, Ac 24 am q → s.heap.size ≤ q := fun q h => by obtain ⟨k, hk, rfl⟩ := h; exact ham k hk
  have hj1 : vp_in (nI i + 1) L := vp_in_iff.mpr (by rw [show nI i + 1 = nI (i + 1) from nI_add i 1, ti_nI (by omega)]; omega)
  have hj2 : vp_in (nI i + 2) L := vp_in_iff.mpr (by rw [show nI i + 2 = nI (i + 2) from nI_add i 2, ti_nI (by omega)]; omega)
  have hj3 : vp_in (nI i + 3) L := vp_in_iff.mpr (by rw [show nI i + 3 = nI (i + 3) from nI_add i 3, ti_nI (by omega)]; omega)
  have hj4 : vp_in (nI i + 4) L := vp_in_iff.mpr (by rw [show nI i + 4 = nI (i + 4) from nI_add i 4, ti_nI (by omega)]; omega)
  obtain ⟨hPx, hPm, hPo, hS⟩ := hLS
  refine lv_aload_n hx hb dL_law_116 rfl (lv_at hl 3 rfl) ?_
  refine lv_aload_n hx hb dL_law_117 rfl (lv_at hl 4 rfl) ?_
  refine lv_iload hx hb dL_law_118 (lv_at hl 0 rfl) ?_
  refine lv_iconst (v := 1) hx hb dL_law_120 (by decide) ?_
  refine lv_iadd hx hb dL_law_121 ?_
  refine va_sld hx hb hX hbl hbA hS hj1 dL_law_122 ?_
  refine lv_aload_n hx hb dL_law_123 rfl (lv_at hl 4 rfl) ?_
  refine lv_iload hx hb dL_law_124 (lv_at hl 0 rfl) ?_
  refine lv_iconst (v := 2) hx hb dL_law_126 (by decide) ?_
  refine lv_iadd hx hb dL_law_127 ?_
  refine va_sld hx hb hX hbl hbA hS hj2 dL_law_128 ?_
  obtain ⟨q, q', hq, hq', hv'⟩ := stp (xs (nI i + 1).toNatClampNeg) (xs (nI i + 2).toNatClampNeg)
  refine va_calli (va_runV (As := [.int (xs (nI i + 1).toNatClampNeg), .int (xs (nI i + 2).toNatClampNeg)]) (rest := []) ⟨hx, hb, hml, hown, hts⟩ (k_X5_work l dC dI cI c9 ad hIx M (xs (nI i + 1).toNatClampNeg) (xs (nI i + 2).toNatClampNeg) q hq) (cwV 2 hts gL_law_X5_work rfl rfl rfl (by decide +kernel) ⟨Nat.le_of_ble_eq_true rfl, Nat.le_of_ble_eq_true rfl⟩) (gP_preV hKK hKw hPx (va_recv hKw hPx (ci := 5) (q0 := 0) rfl cw_lt)) rfl rfl hl.1 rfl (lv_room (Nat.le_of_ble_eq_true rfl)) dL_law_129 ⟨(show 125 + i + 0 ≤ 601024 by omega), (show 7298 + 6 * i + 0 ≤ 7293034 by omega)⟩) hS (fun q _ h => hAx q h) hAx (fun r M' t H1 locs ht hvm hw hB hz1 hk1 hS => ?_)
  obtain ⟨h1, h2⟩ := hw
  subst h1 h2
  rw [ht] at hB
  have hPx : va_P (dC, dI) vwCl (cW cI c9 ad q.2) H1 := hB
  replace hPm := lw_k hPm hk1 (lw_nm hC)
  replace hPo := lw_k hPo hk1 (lw_no hC)
  clear hk1 hz1 hB ht
  generalize H1 = H at hPx hPm hPo hS ⊢
  refine lv_pop hx hb dL_law_132 rfl ?_
  refine lv_aload_n hx hb dL_law_133 rfl (lv_at hl 2 rfl) ?_
  refine lv_aload_n hx hb dL_law_134 rfl (lv_at hl 4 rfl) ?_
  refine lv_iload hx hb dL_law_135 (lv_at hl 0 rfl) ?_
  refine lv_iconst (v := 1) hx hb dL_law_137 (by decide) ?_
  refine lv_iadd hx hb dL_law_138 ?_
  refine va_sld hx hb hX hbl hbA hS hj1 dL_law_139 ?_
  refine lv_aload_n hx hb dL_law_140 rfl (lv_at hl 4 rfl) ?_
  refine lv_iload hx hb dL_law_141 (lv_at hl 0 rfl) ?_
  refine lv_iconst (v := 2) hx hb dL_law_143 (by decide) ?_
  refine lv_iadd hx hb dL_law_144 ?_
  refine va_sld hx hb hX hbl hbA hS hj2 dL_law_145 ?_
  refine va_calli (va_runV (As := [.int (xs (nI i + 1).toNatClampNeg), .int (xs (nI i + 2).toNatClampNeg)]) (rest := []) ⟨hx, hb, hml, hown, hts⟩ (k_X6_work l dC dI cI cZ am hIm N (xs (nI i + 1).toNatClampNeg) (xs (nI i + 2).toNatClampNeg) q' hq') (cwV 2 hts gL_law_X6_work rfl rfl rfl (by decide +kernel) ⟨Nat.le_of_ble_eq_true rfl, Nat.le_of_ble_eq_true rfl⟩) (gm_preV hKK hKz hPm (va_recv hKz hPm (ci := 6) (q0 := 0) rfl mw_0)) rfl rfl hl.1 rfl (lv_room (Nat.le_of_ble_eq_true rfl)) dL_law_146 ⟨(show 125 + i + 0 ≤ 601024 by omega), (show 7298 + 6 * i + 0 ≤ 7293034 by omega)⟩) hS (fun q _ h => hAm q h) hAm (fun r N' t H1 locs ht hvm hw hB hz1 hk1 hS => ?_)
  obtain ⟨h1, h2⟩ := hw
  subst h1 h2
  rw [ht] at hB
  have hPm : va_P (dC, dI) vwCl (mW cI cZ am q'.2) H1 := hB
  replace hPx := lw_k hPx hk1 (lw_nx hC)
  replace hPo := lw_k hPo hk1 (lw_nq hC)
  clear hk1 hz1 hB ht
  generalize H1 = H at hPx hPm hPo hS ⊢
  refine lv_pop hx hb dL_law_149 rfl ?_
  refine lv_goto (tgt := 607) hx hb dL_law_150 (by decide) ?_
  refine W.widen (k := 125 + i + 1) (n := 7298 + 6 * i + 6) (by omega) (by omega) ?_
  exact kk _ _ _ _ _ _ hv' ⟨hPx, hPm, hPo, hS⟩ (lv_sub hl [0, 1, 2, 3, 4] rfl)
set_option maxHeartbeats 4000000 in
set_option maxRecDepth 100000 in
theorem law_1 {p : Program} {l : Launch} {e : Env} {s : State} {m : MethodId} {below : List Frame} {meth : Method} {c : Code} {b L : Nat} {xs : Nat → Int32} (C0 : lw_At p s m meth c b L xs) (hst : l.stackTraces = false) {dC : Nat → ClassId} {dI : Nat → Nat → Nat} {cI c9 cZ cJ : ClassId} {sa : Nat} {ad am : Nat → Nat} {o : Nat} (hC : LwC s dC dI cI c9 cZ cJ ad am o sa) (Iv : Nat → Mem → Mem → Prop) {i : Nat} (hi : i + 5 ≤ L) (hL : L ≤ 2560) {M N : Mem} (stp : ∀ v1 v2 v3 v4 : Int32, ∃ q q', F_X5_wants M v1 v2 v3 v4 = some q ∧ F_X6_wants N v1 v2 v3 v4 = some q' ∧ Iv (i + 5) q.2 q'.2) (g : Nat → Int64) (H : Heap) (locs : List Loc) (ls : Array Slot) (hLS : LwS s dC dI cI c9 cZ cJ ad am o M N g H locs) (hl : lv_has ls 7 [(4, .int (nI i)), (3, .ref o), (2, .ref (am 0)), (1, .ref (ad 0)), (0, .ref b)]) (kk : ∀ (M' N' : Mem) (g' : Nat → Int64) (H : Heap) (locs : List Loc) (ls : Array Slot), Iv (i + 5) M' N' → LwS s dC dI cI c9 cZ cJ ad am o M' N' g' H locs → lv_has ls 7 [(4, .int (nI i)), (3, .ref o), (2, .ref (am 0)), (1, .ref (ad 0)), (0, .ref b)] → W p l e room_1 s m #[Value.ref b] below meth c H locs (125 + i + 1) (7298 + 6 * i + 6) (lw_Z below #[Value.ref b] s) (F0 m 607 ls [])) : W p l e room_1 s m #[Value.ref b] below meth c H locs (125 + i) (7298 + 6 * i) (lw_Z below #[Value.ref b] s) (F0 m 153 ls []) := by
  obtain ⟨hx, hb, hr, hml, hown, hts0, hX, hbl, hlocks, hgv⟩ := id C0
  have hts : ∀ w ∈ wsL_law, w.before #[Value.ref b] s = true := fun w h => hts0 w (wsL_law_in w h)
  have hbA : ¬ (fun q : Nat => s.heap.size ≤ q) b := Nat.not_le.mpr hbl
  obtain ⟨hKK, hKw, hKz, hKj, hE0, hIx, hIm, hxm, hxo, hmo, hax, ham, hao⟩ := id hC
  have hAx : ∀ q, Ac 100 ad q → s.heap.size ≤ q := fun q h => by obtain ⟨k, hk, rfl⟩ := h; exact hax k hk
  have hAm : ∀ q, Ac 24 am q → s.heap.size ≤ q := fun q h => by obtain ⟨k, hk, rfl⟩ := h; exact ham k hk
  have hj1 : vp_in (nI i + 1) L := vp_in_iff.mpr (by rw [show nI i + 1 = nI (i + 1) from nI_add i 1, ti_nI (by omega)]; omega)
  have hj2 : vp_in (nI i + 2) L := vp_in_iff.mpr (by rw [show nI i + 2 = nI (i + 2) from nI_add i 2, ti_nI (by omega)]; omega)
  have hj3 : vp_in (nI i + 3) L := vp_in_iff.mpr (by rw [show nI i + 3 = nI (i + 3) from nI_add i 3, ti_nI (by omega)]; omega)
  have hj4 : vp_in (nI i + 4) L := vp_in_iff.mpr (by rw [show nI i + 4 = nI (i + 4) from nI_add i 4, ti_nI (by omega)]; omega)
  obtain ⟨hPx, hPm, hPo, hS⟩ := hLS
  refine lv_aload_n hx hb dL_law_153 rfl (lv_at hl 3 rfl) ?_
  refine lv_aload_n hx hb dL_law_154 rfl (lv_at hl 4 rfl) ?_
  refine lv_iload hx hb dL_law_155 (lv_at hl 0 rfl) ?_
  refine lv_iconst (v := 1) hx hb dL_law_157 (by decide) ?_
  refine lv_iadd hx hb dL_law_158 ?_
  refine va_sld hx hb hX hbl hbA hS hj1 dL_law_159 ?_
  refine lv_aload_n hx hb dL_law_160 rfl (lv_at hl 4 rfl) ?_
  refine lv_iload hx hb dL_law_161 (lv_at hl 0 rfl) ?_
  refine lv_iconst (v := 2) hx hb dL_law_163 (by decide) ?_
  refine lv_iadd hx hb dL_law_164 ?_
  refine va_sld hx hb hX hbl hbA hS hj2 dL_law_165 ?_
  refine lv_aload_n hx hb dL_law_166 rfl (lv_at hl 4 rfl) ?_
  refine lv_iload hx hb dL_law_167 (lv_at hl 0 rfl) ?_
  refine lv_iconst (v := 3) hx hb dL_law_169 (by decide) ?_
  refine lv_iadd hx hb dL_law_170 ?_
  refine va_sld hx hb hX hbl hbA hS hj3 dL_law_171 ?_
  refine lv_if_eq (tgt := 179) hx hb dL_law_172 (by decide) (fun c1 => ?_) (fun c1 => ?_)
  · refine lv_iconst (v := 0) hx hb dL_law_179 (by decide) ?_
    refine lv_aload_n hx hb dL_law_180 rfl (lv_at hl 4 rfl) ?_
    refine lv_iload hx hb dL_law_181 (lv_at hl 0 rfl) ?_
    refine lv_iconst (v := 4) hx hb dL_law_183 (by decide) ?_
    refine lv_iadd hx hb dL_law_184 ?_
    refine va_sld hx hb hX hbl hbA hS hj4 dL_law_185 ?_
    obtain ⟨q, q', hq, hq', hv'⟩ := stp (xs (nI i + 1).toNatClampNeg) (xs (nI i + 2).toNatClampNeg) 0 (xs (nI i + 4).toNatClampNeg)
    refine va_calli (va_runV (As := [.int (xs (nI i + 1).toNatClampNeg), .int (xs (nI i + 2).toNatClampNeg), .int 0, .int (xs (nI i + 4).toNatClampNeg)]) (rest := []) ⟨hx, hb, hml, hown, hts⟩ (k_X5_wants l dC dI cI c9 ad hIx M (xs (nI i + 1).toNatClampNeg) (xs (nI i + 2).toNatClampNeg) 0 (xs (nI i + 4).toNatClampNeg) q hq) (cwV 4 hts gL_law_X5_wants rfl rfl rfl (by decide +kernel) ⟨Nat.le_of_ble_eq_true rfl, Nat.le_of_ble_eq_true rfl⟩) (gP_preV hKK hKw hPx (va_recv hKw hPx (ci := 5) (q0 := 0) rfl cw_lt)) rfl rfl hl.1 rfl (lv_room (Nat.le_of_ble_eq_true rfl)) dL_law_186 ⟨(show 125 + i + 0 ≤ 601024 by omega), (show 7298 + 6 * i + 0 ≤ 7293034 by omega)⟩) hS (fun q _ h => hAx q h) hAx (fun r M' t H1 locs ht hvm hw hB hz1 hk1 hS => ?_)
    obtain ⟨h1, h2⟩ := hw
    subst h1 h2
    rw [ht] at hB
    have hPx : va_P (dC, dI) vwCl (cW cI c9 ad q.2) H1 := hB
    replace hPm := lw_k hPm hk1 (lw_nm hC)
    replace hPo := lw_k hPo hk1 (lw_no hC)
    clear hk1 hz1 hB ht
    generalize H1 = H at hPx hPm hPo hS ⊢
    refine lv_pop hx hb dL_law_189 rfl ?_
    refine lv_aload_n hx hb dL_law_190 rfl (lv_at hl 2 rfl) ?_
    refine lv_aload_n hx hb dL_law_191 rfl (lv_at hl 4 rfl) ?_
    refine lv_iload hx hb dL_law_192 (lv_at hl 0 rfl) ?_
    refine lv_iconst (v := 1) hx hb dL_law_194 (by decide) ?_
    refine lv_iadd hx hb dL_law_195 ?_
    refine va_sld hx hb hX hbl hbA hS hj1 dL_law_196 ?_
    refine lv_aload_n hx hb dL_law_197 rfl (lv_at hl 4 rfl) ?_
    refine lv_iload hx hb dL_law_198 (lv_at hl 0 rfl) ?_
    refine lv_iconst (v := 2) hx hb dL_law_200 (by decide) ?_
    refine lv_iadd hx hb dL_law_201 ?_
    refine va_sld hx hb hX hbl hbA hS hj2 dL_law_202 ?_
    refine lv_aload_n hx hb dL_law_203 rfl (lv_at hl 4 rfl) ?_
    refine lv_iload hx hb dL_law_204 (lv_at hl 0 rfl) ?_
    refine lv_iconst (v := 3) hx hb dL_law_206 (by decide) ?_
    refine lv_iadd hx hb dL_law_207 ?_
    refine va_sld hx hb hX hbl hbA hS hj3 dL_law_208 ?_
    refine lv_if_eq (tgt := 216) hx hb dL_law_209 (by decide) (fun c2 => ?_) (fun c2 => ?_)
    · refine lv_iconst (v := 0) hx hb dL_law_216 (by decide) ?_
      refine lv_aload_n hx hb dL_law_217 rfl (lv_at hl 4 rfl) ?_
      refine lv_iload hx hb dL_law_218 (lv_at hl 0 rfl) ?_
      refine lv_iconst (v := 4) hx hb dL_law_220 (by decide) ?_
      refine lv_iadd hx hb dL_law_221 ?_
      refine va_sld hx hb hX hbl hbA hS hj4 dL_law_222 ?_
      refine va_calli (va_runV (As := [.int (xs (nI i + 1).toNatClampNeg), .int (xs (nI i + 2).toNatClampNeg), .int 0, .int (xs (nI i + 4).toNatClampNeg)]) (rest := []) ⟨hx, hb, hml, hown, hts⟩ (k_X6_wants l dC dI cI cZ am hIm N (xs (nI i + 1).toNatClampNeg) (xs (nI i + 2).toNatClampNeg) 0 (xs (nI i + 4).toNatClampNeg) q' hq') (cwV 4 hts gL_law_X6_wants rfl rfl rfl (by decide +kernel) ⟨Nat.le_of_ble_eq_true rfl, Nat.le_of_ble_eq_true rfl⟩) (gm_preV hKK hKz hPm (va_recv hKz hPm (ci := 6) (q0 := 0) rfl mw_0)) rfl rfl hl.1 rfl (lv_room (Nat.le_of_ble_eq_true rfl)) dL_law_223 ⟨(show 125 + i + 0 ≤ 601024 by omega), (show 7298 + 6 * i + 0 ≤ 7293034 by omega)⟩) hS (fun q _ h => hAm q h) hAm (fun r N' t H1 locs ht hvm hw hB hz1 hk1 hS => ?_)
      obtain ⟨h1, h2⟩ := hw
      subst h1 h2
      rw [ht] at hB
      have hPm : va_P (dC, dI) vwCl (mW cI cZ am q'.2) H1 := hB
      replace hPx := lw_k hPx hk1 (lw_nx hC)
      replace hPo := lw_k hPo hk1 (lw_nq hC)
      clear hk1 hz1 hB ht
      generalize H1 = H at hPx hPm hPo hS ⊢
      refine lv_pop hx hb dL_law_226 rfl ?_
      refine lv_goto (tgt := 607) hx hb dL_law_227 (by decide) ?_
      refine W.widen (k := 125 + i + 1) (n := 7298 + 6 * i + 6) (by omega) (by omega) ?_
      exact kk _ _ _ _ _ _ hv' ⟨hPx, hPm, hPo, hS⟩ (lv_sub hl [0, 1, 2, 3, 4] rfl)
    · exact absurd c1 c2
  · refine lv_iconst (v := 1) hx hb dL_law_175 (by decide) ?_
    refine lv_goto (tgt := 180) hx hb dL_law_176 (by decide) ?_
    refine lv_aload_n hx hb dL_law_180 rfl (lv_at hl 4 rfl) ?_
    refine lv_iload hx hb dL_law_181 (lv_at hl 0 rfl) ?_
    refine lv_iconst (v := 4) hx hb dL_law_183 (by decide) ?_
    refine lv_iadd hx hb dL_law_184 ?_
    refine va_sld hx hb hX hbl hbA hS hj4 dL_law_185 ?_
    obtain ⟨q, q', hq, hq', hv'⟩ := stp (xs (nI i + 1).toNatClampNeg) (xs (nI i + 2).toNatClampNeg) 1 (xs (nI i + 4).toNatClampNeg)
    refine va_calli (va_runV (As := [.int (xs (nI i + 1).toNatClampNeg), .int (xs (nI i + 2).toNatClampNeg), .int 1, .int (xs (nI i + 4).toNatClampNeg)]) (rest := []) ⟨hx, hb, hml, hown, hts⟩ (k_X5_wants l dC dI cI c9 ad hIx M (xs (nI i + 1).toNatClampNeg) (xs (nI i + 2).toNatClampNeg) 1 (xs (nI i + 4).toNatClampNeg) q hq) (cwV 4 hts gL_law_X5_wants rfl rfl rfl (by decide +kernel) ⟨Nat.le_of_ble_eq_true rfl, Nat.le_of_ble_eq_true rfl⟩) (gP_preV hKK hKw hPx (va_recv hKw hPx (ci := 5) (q0 := 0) rfl cw_lt)) rfl rfl hl.1 rfl (lv_room (Nat.le_of_ble_eq_true rfl)) dL_law_186 ⟨(show 125 + i + 0 ≤ 601024 by omega), (show 7298 + 6 * i + 0 ≤ 7293034 by omega)⟩) hS (fun q _ h => hAx q h) hAx (fun r M' t H1 locs ht hvm hw hB hz1 hk1 hS => ?_)
    obtain ⟨h1, h2⟩ := hw
    subst h1 h2
    rw [ht] at hB
    have hPx : va_P (dC, dI) vwCl (cW cI c9 ad q.2) H1 := hB
    replace hPm := lw_k hPm hk1 (lw_nm hC)
    replace hPo := lw_k hPo hk1 (lw_no hC)
    clear hk1 hz1 hB ht
    generalize H1 = H at hPx hPm hPo hS ⊢
    refine lv_pop hx hb dL_law_189 rfl ?_
    refine lv_aload_n hx hb dL_law_190 rfl (lv_at hl 2 rfl) ?_
    refine lv_aload_n hx hb dL_law_191 rfl (lv_at hl 4 rfl) ?_
    refine lv_iload hx hb dL_law_192 (lv_at hl 0 rfl) ?_
    refine lv_iconst (v := 1) hx hb dL_law_194 (by decide) ?_
    refine lv_iadd hx hb dL_law_195 ?_
    refine va_sld hx hb hX hbl hbA hS hj1 dL_law_196 ?_
    refine lv_aload_n hx hb dL_law_197 rfl (lv_at hl 4 rfl) ?_
    refine lv_iload hx hb dL_law_198 (lv_at hl 0 rfl) ?_
    refine lv_iconst (v := 2) hx hb dL_law_200 (by decide) ?_
    refine lv_iadd hx hb dL_law_201 ?_
    refine va_sld hx hb hX hbl hbA hS hj2 dL_law_202 ?_
    refine lv_aload_n hx hb dL_law_203 rfl (lv_at hl 4 rfl) ?_
    refine lv_iload hx hb dL_law_204 (lv_at hl 0 rfl) ?_
    refine lv_iconst (v := 3) hx hb dL_law_206 (by decide) ?_
    refine lv_iadd hx hb dL_law_207 ?_
    refine va_sld hx hb hX hbl hbA hS hj3 dL_law_208 ?_
    refine lv_if_eq (tgt := 216) hx hb dL_law_209 (by decide) (fun c3 => ?_) (fun c3 => ?_)
    · exact absurd c3 c1
    · refine lv_iconst (v := 1) hx hb dL_law_212 (by decide) ?_
      refine lv_goto (tgt := 217) hx hb dL_law_213 (by decide) ?_
      refine lv_aload_n hx hb dL_law_217 rfl (lv_at hl 4 rfl) ?_
      refine lv_iload hx hb dL_law_218 (lv_at hl 0 rfl) ?_
      refine lv_iconst (v := 4) hx hb dL_law_220 (by decide) ?_
      refine lv_iadd hx hb dL_law_221 ?_
      refine va_sld hx hb hX hbl hbA hS hj4 dL_law_222 ?_
      refine va_calli (va_runV (As := [.int (xs (nI i + 1).toNatClampNeg), .int (xs (nI i + 2).toNatClampNeg), .int 1, .int (xs (nI i + 4).toNatClampNeg)]) (rest := []) ⟨hx, hb, hml, hown, hts⟩ (k_X6_wants l dC dI cI cZ am hIm N (xs (nI i + 1).toNatClampNeg) (xs (nI i + 2).toNatClampNeg) 1 (xs (nI i + 4).toNatClampNeg) q' hq') (cwV 4 hts gL_law_X6_wants rfl rfl rfl (by decide +kernel) ⟨Nat.le_of_ble_eq_true rfl, Nat.le_of_ble_eq_true rfl⟩) (gm_preV hKK hKz hPm (va_recv hKz hPm (ci := 6) (q0 := 0) rfl mw_0)) rfl rfl hl.1 rfl (lv_room (Nat.le_of_ble_eq_true rfl)) dL_law_223 ⟨(show 125 + i + 0 ≤ 601024 by omega), (show 7298 + 6 * i + 0 ≤ 7293034 by omega)⟩) hS (fun q _ h => hAm q h) hAm (fun r N' t H1 locs ht hvm hw hB hz1 hk1 hS => ?_)
      obtain ⟨h1, h2⟩ := hw
      subst h1 h2
      rw [ht] at hB
      have hPm : va_P (dC, dI) vwCl (mW cI cZ am q'.2) H1 := hB
      replace hPx := lw_k hPx hk1 (lw_nx hC)
      replace hPo := lw_k hPo hk1 (lw_nq hC)
      clear hk1 hz1 hB ht
      generalize H1 = H at hPx hPm hPo hS ⊢
      refine lv_pop hx hb dL_law_226 rfl ?_
      refine lv_goto (tgt := 607) hx hb dL_law_227 (by decide) ?_
      refine W.widen (k := 125 + i + 1) (n := 7298 + 6 * i + 6) (by omega) (by omega) ?_
      exact kk _ _ _ _ _ _ hv' ⟨hPx, hPm, hPo, hS⟩ (lv_sub hl [0, 1, 2, 3, 4] rfl)
set_option maxHeartbeats 4000000 in
set_option maxRecDepth 100000 in
theorem law_2 {p : Program} {l : Launch} {e : Env} {s : State} {m : MethodId} {below : List Frame} {meth : Method} {c : Code} {b L : Nat} {xs : Nat → Int32} (C0 : lw_At p s m meth c b L xs) (hst : l.stackTraces = false) {dC : Nat → ClassId} {dI : Nat → Nat → Nat} {cI c9 cZ cJ : ClassId} {sa : Nat} {ad am : Nat → Nat} {o : Nat} (hC : LwC s dC dI cI c9 cZ cJ ad am o sa) (Iv : Nat → Mem → Mem → Prop) {i : Nat} (hi : i + 5 ≤ L) (hL : L ≤ 2560) {M N : Mem} (stp : ∀ v1 v2 v3 : Int32, ∃ q q', F_X5_sends M v1 v2 v3 = some q ∧ F_X6_sends N v1 v2 v3 = some q' ∧ Iv (i + 5) q.2 q'.2) (g : Nat → Int64) (H : Heap) (locs : List Loc) (ls : Array Slot) (hLS : LwS s dC dI cI c9 cZ cJ ad am o M N g H locs) (hl : lv_has ls 7 [(4, .int (nI i)), (3, .ref o), (2, .ref (am 0)), (1, .ref (ad 0)), (0, .ref b)]) (kk : ∀ (M' N' : Mem) (g' : Nat → Int64) (H : Heap) (locs : List Loc) (ls : Array Slot), Iv (i + 5) M' N' → LwS s dC dI cI c9 cZ cJ ad am o M' N' g' H locs → lv_has ls 7 [(4, .int (nI i)), (3, .ref o), (2, .ref (am 0)), (1, .ref (ad 0)), (0, .ref b)] → W p l e room_1 s m #[Value.ref b] below meth c H locs (125 + i + 1) (7298 + 6 * i + 6) (lw_Z below #[Value.ref b] s) (F0 m 607 ls [])) : W p l e room_1 s m #[Value.ref b] below meth c H locs (125 + i) (7298 + 6 * i) (lw_Z below #[Value.ref b] s) (F0 m 230 ls []) := by
  obtain ⟨hx, hb, hr, hml, hown, hts0, hX, hbl, hlocks, hgv⟩ := id C0
  have hts : ∀ w ∈ wsL_law, w.before #[Value.ref b] s = true := fun w h => hts0 w (wsL_law_in w h)
  have hbA : ¬ (fun q : Nat => s.heap.size ≤ q) b := Nat.not_le.mpr hbl
  obtain ⟨hKK, hKw, hKz, hKj, hE0, hIx, hIm, hxm, hxo, hmo, hax, ham, hao⟩ := id hC
  have hAx : ∀ q, Ac 100 ad q → s.heap.size ≤ q := fun q h => by obtain ⟨k, hk, rfl⟩ := h; exact hax k hk
  have hAm : ∀ q, Ac 24 am q → s.heap.size ≤ q := fun q h => by obtain ⟨k, hk, rfl⟩ := h; exact ham k hk
  have hj1 : vp_in (nI i + 1) L := vp_in_iff.mpr (by rw [show nI i + 1 = nI (i + 1) from nI_add i 1, ti_nI (by omega)]; omega)
  have hj2 : vp_in (nI i + 2) L := vp_in_iff.mpr (by rw [show nI i + 2 = nI (i + 2) from nI_add i 2, ti_nI (by omega)]; omega)
  have hj3 : vp_in (nI i + 3) L := vp_in_iff.mpr (by rw [show nI i + 3 = nI (i + 3) from nI_add i 3, ti_nI (by omega)]; omega)
  have hj4 : vp_in (nI i + 4) L := vp_in_iff.mpr (by rw [show nI i + 4 = nI (i + 4) from nI_add i 4, ti_nI (by omega)]; omega)
  obtain ⟨hPx, hPm, hPo, hS⟩ := hLS
  refine lv_aload_n hx hb dL_law_230 rfl (lv_at hl 3 rfl) ?_
  refine lv_aload_n hx hb dL_law_231 rfl (lv_at hl 4 rfl) ?_
  refine lv_iload hx hb dL_law_232 (lv_at hl 0 rfl) ?_
  refine lv_iconst (v := 1) hx hb dL_law_234 (by decide) ?_
  refine lv_iadd hx hb dL_law_235 ?_
  refine va_sld hx hb hX hbl hbA hS hj1 dL_law_236 ?_
  refine lv_aload_n hx hb dL_law_237 rfl (lv_at hl 4 rfl) ?_
  refine lv_iload hx hb dL_law_238 (lv_at hl 0 rfl) ?_
  refine lv_iconst (v := 2) hx hb dL_law_240 (by decide) ?_
  refine lv_iadd hx hb dL_law_241 ?_
  refine va_sld hx hb hX hbl hbA hS hj2 dL_law_242 ?_
  refine lv_aload_n hx hb dL_law_243 rfl (lv_at hl 4 rfl) ?_
  refine lv_iload hx hb dL_law_244 (lv_at hl 0 rfl) ?_
  refine lv_iconst (v := 3) hx hb dL_law_246 (by decide) ?_
  refine lv_iadd hx hb dL_law_247 ?_
  refine va_sld hx hb hX hbl hbA hS hj3 dL_law_248 ?_
  obtain ⟨q, q', hq, hq', hv'⟩ := stp (xs (nI i + 1).toNatClampNeg) (xs (nI i + 2).toNatClampNeg) (xs (nI i + 3).toNatClampNeg)
  refine va_calli (va_runV (As := [.int (xs (nI i + 1).toNatClampNeg), .int (xs (nI i + 2).toNatClampNeg), .int (xs (nI i + 3).toNatClampNeg)]) (rest := []) ⟨hx, hb, hml, hown, hts⟩ (k_X5_sends l dC dI cI c9 ad hIx M (xs (nI i + 1).toNatClampNeg) (xs (nI i + 2).toNatClampNeg) (xs (nI i + 3).toNatClampNeg) q hq) (cwV 3 hts gL_law_X5_sends rfl rfl rfl (by decide +kernel) ⟨Nat.le_of_ble_eq_true rfl, Nat.le_of_ble_eq_true rfl⟩) (gP_preV hKK hKw hPx (va_recv hKw hPx (ci := 5) (q0 := 0) rfl cw_lt)) rfl rfl hl.1 rfl (lv_room (Nat.le_of_ble_eq_true rfl)) dL_law_249 ⟨(show 125 + i + 0 ≤ 601024 by omega), (show 7298 + 6 * i + 0 ≤ 7293034 by omega)⟩) hS (fun q _ h => hAx q h) hAx (fun r M' t H1 locs ht hvm hw hB hz1 hk1 hS => ?_)
  obtain ⟨h1, h2⟩ := hw
  subst h1 h2
  rw [ht] at hB
  have hPx : va_P (dC, dI) vwCl (cW cI c9 ad q.2) H1 := hB
  replace hPm := lw_k hPm hk1 (lw_nm hC)
  replace hPo := lw_k hPo hk1 (lw_no hC)
  clear hk1 hz1 hB ht
  generalize H1 = H at hPx hPm hPo hS ⊢
  refine lv_pop hx hb dL_law_252 rfl ?_
  refine lv_aload_n hx hb dL_law_253 rfl (lv_at hl 2 rfl) ?_
  refine lv_aload_n hx hb dL_law_254 rfl (lv_at hl 4 rfl) ?_
  refine lv_iload hx hb dL_law_255 (lv_at hl 0 rfl) ?_
  refine lv_iconst (v := 1) hx hb dL_law_257 (by decide) ?_
  refine lv_iadd hx hb dL_law_258 ?_
  refine va_sld hx hb hX hbl hbA hS hj1 dL_law_259 ?_
  refine lv_aload_n hx hb dL_law_260 rfl (lv_at hl 4 rfl) ?_
  refine lv_iload hx hb dL_law_261 (lv_at hl 0 rfl) ?_
  refine lv_iconst (v := 2) hx hb dL_law_263 (by decide) ?_
  refine lv_iadd hx hb dL_law_264 ?_
  refine va_sld hx hb hX hbl hbA hS hj2 dL_law_265 ?_
  refine lv_aload_n hx hb dL_law_266 rfl (lv_at hl 4 rfl) ?_
  refine lv_iload hx hb dL_law_267 (lv_at hl 0 rfl) ?_
  refine lv_iconst (v := 3) hx hb dL_law_269 (by decide) ?_
  refine lv_iadd hx hb dL_law_270 ?_
  refine va_sld hx hb hX hbl hbA hS hj3 dL_law_271 ?_
  refine va_calli (va_runV (As := [.int (xs (nI i + 1).toNatClampNeg), .int (xs (nI i + 2).toNatClampNeg), .int (xs (nI i + 3).toNatClampNeg)]) (rest := []) ⟨hx, hb, hml, hown, hts⟩ (k_X6_sends l dC dI cI cZ am hIm N (xs (nI i + 1).toNatClampNeg) (xs (nI i + 2).toNatClampNeg) (xs (nI i + 3).toNatClampNeg) q' hq') (cwV 3 hts gL_law_X6_sends rfl rfl rfl (by decide +kernel) ⟨Nat.le_of_ble_eq_true rfl, Nat.le_of_ble_eq_true rfl⟩) (gm_preV hKK hKz hPm (va_recv hKz hPm (ci := 6) (q0 := 0) rfl mw_0)) rfl rfl hl.1 rfl (lv_room (Nat.le_of_ble_eq_true rfl)) dL_law_272 ⟨(show 125 + i + 0 ≤ 601024 by omega), (show 7298 + 6 * i + 0 ≤ 7293034 by omega)⟩) hS (fun q _ h => hAm q h) hAm (fun r N' t H1 locs ht hvm hw hB hz1 hk1 hS => ?_)
  obtain ⟨h1, h2⟩ := hw
  subst h1 h2
  rw [ht] at hB
  have hPm : va_P (dC, dI) vwCl (mW cI cZ am q'.2) H1 := hB
  replace hPx := lw_k hPx hk1 (lw_nx hC)
  replace hPo := lw_k hPo hk1 (lw_nq hC)
  clear hk1 hz1 hB ht
  generalize H1 = H at hPx hPm hPo hS ⊢
  refine lv_pop hx hb dL_law_275 rfl ?_
  refine lv_goto (tgt := 607) hx hb dL_law_276 (by decide) ?_
  refine W.widen (k := 125 + i + 1) (n := 7298 + 6 * i + 6) (by omega) (by omega) ?_
  exact kk _ _ _ _ _ _ hv' ⟨hPx, hPm, hPo, hS⟩ (lv_sub hl [0, 1, 2, 3, 4] rfl)
set_option maxHeartbeats 4000000 in
set_option maxRecDepth 100000 in
theorem law_3 {p : Program} {l : Launch} {e : Env} {s : State} {m : MethodId} {below : List Frame} {meth : Method} {c : Code} {b L : Nat} {xs : Nat → Int32} (C0 : lw_At p s m meth c b L xs) (hst : l.stackTraces = false) {dC : Nat → ClassId} {dI : Nat → Nat → Nat} {cI c9 cZ cJ : ClassId} {sa : Nat} {ad am : Nat → Nat} {o : Nat} (hC : LwC s dC dI cI c9 cZ cJ ad am o sa) (Iv : Nat → Mem → Mem → Prop) {i : Nat} (hi : i + 5 ≤ L) (hL : L ≤ 2560) {M N : Mem} (stp : ∀ v1 : Int32, ∃ q q', F_X5_loses M v1 = some q ∧ F_X6_loses N v1 = some q' ∧ Iv (i + 5) q.2 q'.2) (g : Nat → Int64) (H : Heap) (locs : List Loc) (ls : Array Slot) (hLS : LwS s dC dI cI c9 cZ cJ ad am o M N g H locs) (hl : lv_has ls 7 [(4, .int (nI i)), (3, .ref o), (2, .ref (am 0)), (1, .ref (ad 0)), (0, .ref b)]) (kk : ∀ (M' N' : Mem) (g' : Nat → Int64) (H : Heap) (locs : List Loc) (ls : Array Slot), Iv (i + 5) M' N' → LwS s dC dI cI c9 cZ cJ ad am o M' N' g' H locs → lv_has ls 7 [(4, .int (nI i)), (3, .ref o), (2, .ref (am 0)), (1, .ref (ad 0)), (0, .ref b)] → W p l e room_1 s m #[Value.ref b] below meth c H locs (125 + i + 1) (7298 + 6 * i + 6) (lw_Z below #[Value.ref b] s) (F0 m 607 ls [])) : W p l e room_1 s m #[Value.ref b] below meth c H locs (125 + i) (7298 + 6 * i) (lw_Z below #[Value.ref b] s) (F0 m 279 ls []) := by
  obtain ⟨hx, hb, hr, hml, hown, hts0, hX, hbl, hlocks, hgv⟩ := id C0
  have hts : ∀ w ∈ wsL_law, w.before #[Value.ref b] s = true := fun w h => hts0 w (wsL_law_in w h)
  have hbA : ¬ (fun q : Nat => s.heap.size ≤ q) b := Nat.not_le.mpr hbl
  obtain ⟨hKK, hKw, hKz, hKj, hE0, hIx, hIm, hxm, hxo, hmo, hax, ham, hao⟩ := id hC
  have hAx : ∀ q, Ac 100 ad q → s.heap.size ≤ q := fun q h => by obtain ⟨k, hk, rfl⟩ := h; exact hax k hk
  have hAm : ∀ q, Ac 24 am q → s.heap.size ≤ q := fun q h => by obtain ⟨k, hk, rfl⟩ := h; exact ham k hk
  have hj1 : vp_in (nI i + 1) L := vp_in_iff.mpr (by rw [show nI i + 1 = nI (i + 1) from nI_add i 1, ti_nI (by omega)]; omega)
  have hj2 : vp_in (nI i + 2) L := vp_in_iff.mpr (by rw [show nI i + 2 = nI (i + 2) from nI_add i 2, ti_nI (by omega)]; omega)
  have hj3 : vp_in (nI i + 3) L := vp_in_iff.mpr (by rw [show nI i + 3 = nI (i + 3) from nI_add i 3, ti_nI (by omega)]; omega)
  have hj4 : vp_in (nI i + 4) L := vp_in_iff.mpr (by rw [show nI i + 4 = nI (i + 4) from nI_add i 4, ti_nI (by omega)]; omega)
  obtain ⟨hPx, hPm, hPo, hS⟩ := hLS
  refine lv_aload_n hx hb dL_law_279 rfl (lv_at hl 3 rfl) ?_
  refine lv_aload_n hx hb dL_law_280 rfl (lv_at hl 4 rfl) ?_
  refine lv_iload hx hb dL_law_281 (lv_at hl 0 rfl) ?_
  refine lv_iconst (v := 1) hx hb dL_law_283 (by decide) ?_
  refine lv_iadd hx hb dL_law_284 ?_
  refine va_sld hx hb hX hbl hbA hS hj1 dL_law_285 ?_
  obtain ⟨q, q', hq, hq', hv'⟩ := stp (xs (nI i + 1).toNatClampNeg)
  refine va_calli (va_runV (As := [.int (xs (nI i + 1).toNatClampNeg)]) (rest := []) ⟨hx, hb, hml, hown, hts⟩ (k_X5_loses l dC dI cI c9 ad hIx M (xs (nI i + 1).toNatClampNeg) q hq) (cwV 1 hts gL_law_X5_loses rfl rfl rfl (by decide +kernel) ⟨Nat.le_of_ble_eq_true rfl, Nat.le_of_ble_eq_true rfl⟩) (gP_preV hKK hKw hPx (va_recv hKw hPx (ci := 5) (q0 := 0) rfl cw_lt)) rfl rfl hl.1 rfl (lv_room (Nat.le_of_ble_eq_true rfl)) dL_law_286 ⟨(show 125 + i + 0 ≤ 601024 by omega), (show 7298 + 6 * i + 0 ≤ 7293034 by omega)⟩) hS (fun q _ h => hAx q h) hAx (fun r M' t H1 locs ht hvm hw hB hz1 hk1 hS => ?_)
  obtain ⟨h1, h2⟩ := hw
  subst h1 h2
  rw [ht] at hB
  have hPx : va_P (dC, dI) vwCl (cW cI c9 ad q.2) H1 := hB
  replace hPm := lw_k hPm hk1 (lw_nm hC)
  replace hPo := lw_k hPo hk1 (lw_no hC)
  clear hk1 hz1 hB ht
  generalize H1 = H at hPx hPm hPo hS ⊢
  refine lv_pop hx hb dL_law_289 rfl ?_
  refine lv_aload_n hx hb dL_law_290 rfl (lv_at hl 2 rfl) ?_
  refine lv_aload_n hx hb dL_law_291 rfl (lv_at hl 4 rfl) ?_
  refine lv_iload hx hb dL_law_292 (lv_at hl 0 rfl) ?_
  refine lv_iconst (v := 1) hx hb dL_law_294 (by decide) ?_
  refine lv_iadd hx hb dL_law_295 ?_
  refine va_sld hx hb hX hbl hbA hS hj1 dL_law_296 ?_
  refine va_calli (va_runV (As := [.int (xs (nI i + 1).toNatClampNeg)]) (rest := []) ⟨hx, hb, hml, hown, hts⟩ (k_X6_loses l dC dI cI cZ am hIm N (xs (nI i + 1).toNatClampNeg) q' hq') (cwV 1 hts gL_law_X6_loses rfl rfl rfl (by decide +kernel) ⟨Nat.le_of_ble_eq_true rfl, Nat.le_of_ble_eq_true rfl⟩) (gm_preV hKK hKz hPm (va_recv hKz hPm (ci := 6) (q0 := 0) rfl mw_0)) rfl rfl hl.1 rfl (lv_room (Nat.le_of_ble_eq_true rfl)) dL_law_297 ⟨(show 125 + i + 0 ≤ 601024 by omega), (show 7298 + 6 * i + 0 ≤ 7293034 by omega)⟩) hS (fun q _ h => hAm q h) hAm (fun r N' t H1 locs ht hvm hw hB hz1 hk1 hS => ?_)
  obtain ⟨h1, h2⟩ := hw
  subst h1 h2
  rw [ht] at hB
  have hPm : va_P (dC, dI) vwCl (mW cI cZ am q'.2) H1 := hB
  replace hPx := lw_k hPx hk1 (lw_nx hC)
  replace hPo := lw_k hPo hk1 (lw_nq hC)
  clear hk1 hz1 hB ht
  generalize H1 = H at hPx hPm hPo hS ⊢
  refine lv_pop hx hb dL_law_300 rfl ?_
  refine lv_goto (tgt := 607) hx hb dL_law_301 (by decide) ?_
  refine W.widen (k := 125 + i + 1) (n := 7298 + 6 * i + 6) (by omega) (by omega) ?_
  exact kk _ _ _ _ _ _ hv' ⟨hPx, hPm, hPo, hS⟩ (lv_sub hl [0, 1, 2, 3, 4] rfl)
