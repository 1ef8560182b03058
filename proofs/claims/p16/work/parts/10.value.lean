def cxN : String := "java/lang/IndexOutOfBoundsException"
def cxA : List Cond := vx_atS RX5 141 "java/lang/IndexOutOfBoundsException" ["java/lang/RuntimeException", "java/lang/Exception"]
/-- the words of the throw that aren't good ones -/
def cxB : List Cond := cxA.filter (fun w => !goodWord w)
def cxC : Cond → Bool
  | .castable _ _ => true
  | .declares _ => true
  | _ => false
theorem cxB_c : ∀ w ∈ cxB, cxC w = true := by decide +kernel
theorem cxB_t : ∀ w ∈ cxB, w.onTables = true := by decide +kernel
theorem cxB_l : ∀ w ∈ cxB, w ∈ lw_tbl := by decide +kernel
theorem cxB_x : Cond.castable cxN cxN ∈ cxB := by decide +kernel
def cxW (U : State) : Prop := ∀ w ∈ cxB, va_Nw w U
theorem cxW_warm {s U : State} (hW : s.WarmedH U.vm) (h : cxW s) : cxW U := by
  intro w hw
  have h1 := cxB_c w hw
  have h2 := h w hw
  cases w <;> first | exact va_Nw.warmC hW h2 | exact va_Nw.warmD hW h2 | cases h1
theorem cxW_same {u U : State} (e : u.vm = U.vm) (h : cxW u) : cxW U := fun w hw => va_Nw.same (cxB_t w hw) e (h w hw)
/-- what the throw takes as known: the text, Throwable's two statics, the castings -/
def cxE (n0 sa : Nat) (U : State) (H : Heap) : Prop := vk_R RX5 139 "no such copy" sa U ∧ vx_Zq Bundle.tN "UNASSIGNED_STACK" Bundle.steD (fun q => n0 ≤ q) U H ∧ vx_Zq Bundle.tN "SUPPRESSED_SENTINEL" Bundle.listD (fun q => n0 ≤ q) U H ∧ cxW U
theorem cxE.warm {n0 sa : Nat} {s U : State} {H : Heap} (hW : s.WarmedH U.vm) (h : cxE n0 sa s H) : cxE n0 sa U H := ⟨h.1.warm hW, h.2.1.moved hW.alike, h.2.2.1.moved hW.alike, cxW_warm hW h.2.2.2⟩
theorem cxE.calling {n0 sa : Nat} {U : State} {H : Heap} {g : JFrame} {mk : MethodId} {a : Array Value} (h : cxE n0 sa U H) : cxE n0 sa (U.calling g mk a) H := ⟨vk_R.same (u := U) (U := U.calling g mk a) rfl h.1, vx_Zq.moved (u := U) (U := U.calling g mk a) (Vm.Alike.refl U.vm) h.2.1, vx_Zq.moved (u := U) (U := U.calling g mk a) (Vm.Alike.refl U.vm) h.2.2.1, cxW_same (u := U) (U := U.calling g mk a) rfl h.2.2.2⟩
theorem cxE.kept {n0 sa : Nat} {U : State} {H H1 : Heap} (h : cxE n0 sa U H) (hq : ∀ a : Nat, a < H.size → ¬ n0 ≤ a → H1[a]? = H[a]?) : cxE n0 sa U H1 := ⟨h.1, h.2.1.kept hq, h.2.2.1.kept hq, h.2.2.2⟩
def cxP (dC : Nat → ClassId) (dI : Nat → Nat → Nat) (cI : ClassId) (n0 sa : Nat) (av : List Value) (ws : va_W) : Array Value → State → Prop := fun a U => rP dC dI cI av ws a U ∧ cxE n0 sa U U.heap
theorem cxP_preV {dC : Nat → ClassId} {dI : Nat → Nat → Nat} {cI : ClassId} {n0 sa : Nat} {av : List Value} {ws : va_W} {s : State} {H : Heap} {b : Addr} {C : String} (hK : kb dC dI cI s) (hP : va_P (dC, dI) vwCl ws H) (hE : cxE n0 sa s H) (hr : ∃ cellB : Cell, H[b]? = some cellB ∧ cellB.vm.isStatics = false ∧ s.vm.findClass C = some cellB.cls) : PreV s H C b (cxP dC dI cI n0 sa (.ref b :: av) ws) av :=
  ⟨fun a U g mk q => ⟨rP_blind a U g mk q.1, cxE.calling q.2⟩, hr, fun U hU hW => ⟨⟨rfl, by rw [hU]; exact hP, hK.warm hW⟩, by rw [hU]; exact hE.warm hW⟩⟩
theorem iX5_value_X3 : ∀ w ∈ u_ws RX3 TX3 4, w ∈ wsX5_value := by decide +kernel
theorem iX5_value_X5 : ∀ w ∈ u_ws RX5 TX5 5, w ∈ wsX5_value := by decide +kernel
theorem cx_good : ∀ w ∈ Cond.classLink RX5 137 "java/lang/IndexOutOfBoundsException" :: Cond.initialized "java/lang/IndexOutOfBoundsException" :: vx_atS RX5 141 "java/lang/IndexOutOfBoundsException" ["java/lang/RuntimeException", "java/lang/Exception"], vx_ot w = true := by decide +kernel
set_option maxHeartbeats 4000000 in
set_option maxRecDepth 100000 in
/-- value: the copy's value, or thrown -/
theorem c_value (l : Launch) (hst : l.stackTraces = false) (dC : Nat → ClassId) (dI : Nat → Nat → Nat) (cI : ClassId) (n0 sa : Nat) (x wa sh po di va vw ho li : Nat) (wc : Int32) (f : Nat → Int32) (v : Int32) : vx_Met l yX5_value wsX5_value ({ frames := 6, cells := 1, slots := 6, locals := 82 }) (cxP dC dI cI n0 sa [.ref x, .int v] [(x, .inr (5, [.ref wa, .int wc, .ref sh, .ref po, .ref di])), (sh, .inr (3, [.ref va, .ref vw, .ref ho, .ref li])), (va, .inl (cI, 10, .inl f))]) (va_Qi (fun r (_ : Unit) => ¬ v < 0 ∧ ¬ 10 ≤ v ∧ r = f v.toNatClampNeg) (fun _ _ => True) (fun _ => False)) (vx_X (fun _ : Unit => v < 0 ∨ 10 ≤ v) (fun E _ _ => E = cxN) (fun _ => False)) 1 6 (fun _ => False) := by
  refine vx_ofW (cc := cX5_value) (maxL := 2) (ret := (some .int)) (by decide) rfl ?_
  intro p e s m args below meth c s₁ B hml hout hv
  obtain ⟨⟨rfl, hP, hKK⟩, hE⟩ := hv
  have hx := B.exec
  have hb := B.bytes
  have hr := B.returns
  have hts := atoms_spec (ws := wsX5_value) B.pre
  have hown : s.vm.findClass RX5 = some m.cls := findClass_of_methodNamed B.named
  have hlocks := B.notSynchronized
  have hP : va_P (dC, dI) vwCl [(x, .inr (5, [.ref wa, .int wc, .ref sh, .ref po, .ref di])), (sh, .inr (3, [.ref va, .ref vw, .ref ho, .ref li])), (va, .inl (cI, 10, .inl f))] s.heap := hP
  have hl := lv_entry ([.ref x, .int v]) (n := 2) (Nat.le_of_ble_eq_true rfl)
  rw [lg_entry_eq]
  generalize (lg_sl ([.ref x, .int v]) ++ List.replicate (2 - (lg_sl ([.ref x, .int v])).length) Slot.unset).toArray = ls at hl ⊢
  have hl : lv_has ls 2 [(0, .ref x), (1, .int v)] := hl
  refine lv_iload_n hx hb dX5_value_0 rfl (lv_at hl 1 rfl) ?_
  refine vp_callSi (va_Run.run (va_runS (As := [.int v]) (rest := []) ⟨hx, hb, hml, hown, hts⟩ (c_isCopy l dC dI cI v) (va_cwS 1 hts gX5_value_X5_isCopy rfl rfl rfl (by decide +kernel) ⟨Nat.le_of_ble_eq_true rfl, Nat.le_of_ble_eq_true rfl⟩) (rP_preS hKK (hP.sub (ws' := []) [] rfl)) rfl rfl hl.1 rfl (lv_room (Nat.le_of_ble_eq_true rfl)) dX5_value_1 ⟨Nat.zero_le _, Nat.zero_le _⟩)) (fun r_1 hr_1 => ?_)
  refine lv_if_ne (tgt := 17) hx hb dX5_value_4 (by decide) (fun c_2 => ?_) (fun c_2 => ?_)
  · have hv2 : ¬ v < 0 ∧ ¬ 10 ≤ v := by
      rcases hr_1 with ⟨_, a, b⟩ | ⟨e, _⟩
      · exact ⟨a, b⟩
      · exact absurd e c_2
    refine lv_aload_n hx hb dX5_value_17 rfl (lv_at hl 0 rfl) ?_
    refine va_get (D := (dC, dI)) (ci := 5) (v := .ref sh) (C := RX5) (T := TX5) (N := 5) hx hb hts iX5_value_X5 hown hKK.1 hP 0 rfl rfl 2 (by decide) (hts (.fieldLink RX5 18 "LendThreads" "shelf" "LLendThreads$Shelf;") (by decide +kernel)) (fun _ h9 => h9) rfl dX5_value_18 ?_
    refine va_getN (D := (dC, dI)) (ci := 3) (v := .ref va) (C := RX3) (T := TX3) (N := 4) hx hb hts iX5_value_X3 hown hKK.1 hP 1 rfl rfl 0 (by decide) (va_Nw.use rfl (hKK.2.2 (.fieldLinkNest RX5 144 RX3 "values" "[I" RX5) (by decide +kernel))) (fun _ h9 => h9) rfl dX5_value_21 ?_
    refine lv_iload_n hx hb dX5_value_24 rfl (lv_at hl 1 rfl) ?_
    refine va_iald hx hb hKK.1 hP 2 0 rfl rfl (bn_in (by decide) hv2.1 hv2.2) dX5_value_25 ?_
    refine W.widen (k := 1) (n := 6) (by omega) (by omega) ?_
    exact vx_ret (W.iret (v := f v.toNatClampNeg) hx hb hr (fun t ht hW => ⟨⟨_, (), rfl, ⟨hv2.1, hv2.2, rfl⟩, trivial⟩, by rw [ht]; exact Nat.le_refl _, fun q _ _ => by rw [ht]⟩) (fun _ h => by cases h) dX5_value_26)
  · have hv2 : v < 0 ∨ 10 ≤ v := by
      rcases hr_1 with ⟨e, _⟩ | ⟨_, h⟩
      · exact absurd (e.symm.trans c_2) (by decide)
      · exact h
    refine vx_throwS (own := RX5) (cls := "java/lang/IndexOutOfBoundsException") (text := "no such copy") (names := ["java/lang/RuntimeException", "java/lang/Exception"]) (ik := 137) (is := 139) (ic := 141) (sa := sa) (A := fun q => n0 ≤ q) hx hb hst hown (by decide +kernel) (by decide +kernel) (hts _ (by decide +kernel)) (hts _ (by decide +kernel)) hE.1
      (vx_hat (B := cxB) (fun w h => hts w (List.mem_cons_of_mem _ (List.mem_append_right _ h))) (fun w h => h) (fun w h => va_Nw.use (cxB_t w h) (hE.2.2.2 w h)))
      cx_good hE.2.1 hE.2.2.1 va_S.rf (by rw [hml]; exact hl.1) dX5_value_7 dX5_value_10 dX5_value_11 dX5_value_13 dX5_value_16 (fun x hx => (hout x hx).elim) (Nat.le_of_ble_eq_true rfl) (Nat.le_of_ble_eq_true rfl) (Nat.le_of_ble_eq_true rfl) (Nat.le_of_ble_eq_true rfl) hlocks
      (fun t hal hsz hk => ⟨(), hv2, rfl, hsz, fun q h1 _ => hk q h1⟩) (fun _ h => by cases h) (Nat.le_refl _) (Nat.le_refl _)
/-- the law's own helper: what it takes -/
def cxV (dC : Nat → ClassId) (dI : Nat → Nat → Nat) (cI cJ : ClassId) (n0 sa : Nat) (av : List Value) (ws : va_W) (sz : Nat) : Array Value → State → Prop := fun a U => cxP dC dI cI n0 sa av ws a U ∧ va_K (dC, dI) vwCl [(cI, .int), (cJ, .long)] U ∧ U.heap.size = sz ∧ va_D (fun _ => True) ws
theorem cxV_preS {dC : Nat → ClassId} {dI : Nat → Nat → Nat} {cI cJ : ClassId} {n0 sa : Nat} {av : List Value} {ws : va_W} {s : State} {H : Heap} {A : Nat → Prop} (hK : kb dC dI cI s) (hKj : va_K (dC, dI) vwCl [(cI, .int), (cJ, .long)] s) (hP : va_P (dC, dI) vwCl ws H) (hD : va_D A ws) (hE : cxE n0 sa s H) : PreS s H (cxV dC dI cI cJ n0 sa av ws H.size) av :=
  ⟨fun a U g mk q => ⟨⟨rP_blind a U g mk q.1.1, cxE.calling q.1.2⟩, va_K.moved (u := U) (U := U.calling g mk a) (Vm.Alike.refl U.vm) q.2.1, q.2.2.1, q.2.2.2⟩, fun U hU hW => ⟨⟨⟨rfl, by rw [hU]; exact hP, hK.warm hW⟩, by rw [hU]; exact hE.warm hW⟩, va_K.moved hW.alike hKj, by rw [hU], hD.weaken (fun _ _ _ _ => trivial)⟩⟩
set_option maxHeartbeats 4000000 in
set_option maxRecDepth 100000 in
/-- the law's helper: 0 and the value laid into the row, or 1 -/
theorem c_lvalue (l : Launch) (hst : l.stackTraces = false) (dC : Nat → ClassId) (dI : Nat → Nat → Nat) (cI cJ : ClassId) (n0 sa : Nat) (sz : Nat) (x wa sh po di va vw ho li o : Nat) (wc : Int32) (f : Nat → Int32) (g9 : Nat → Int64) (v : Int32) : Met l yL_value wsL_value ({ frames := 7, cells := 1, slots := 6, locals := 103 }) (cxV dC dI cI cJ n0 sa [.ref x, .int v, .ref o] [(x, .inr (5, [.ref wa, .int wc, .ref sh, .ref po, .ref di])), (sh, .inr (3, [.ref va, .ref vw, .ref ho, .ref li])), (va, .inl (cI, 10, .inl f)), (o, .inl (cJ, 1, .inr (.inl g9)))] sz) (va_Qi (fun r (u : Nat → Int64) => (r = 0 ∧ (¬ v < 0 ∧ ¬ 10 ≤ v) ∧ u 0 = (f v.toNatClampNeg).toInt64) ∨ (r = 1 ∧ (v < 0 ∨ 10 ≤ v))) (fun u t => uB dC dI (va_A [(o, .inl (cJ, 1, .inr (.inl g9)))] sz) [(o, .inl (cJ, 1, .inr (.inl u)))] t) (va_A [(o, .inl (cJ, 1, .inr (.inl g9)))] sz)) 1 6 (va_A [(o, .inl (cJ, 1, .inr (.inl g9)))] sz) := by
  refine va_MetW (cc := cL_value) (maxL := 4) (ret := (some .int)) (hh := [(0, 9, 12, 13)]) (by decide) rfl ?_
  intro p e s m args below meth c s₁ B hml hv
  obtain ⟨⟨⟨rfl, hP, hKK⟩, hE⟩, hKj, hsz, hD0⟩ := hv
  have hx := B.exec
  have hb := B.bytes
  have hr := B.returns
  have hts := atoms_spec (ws := wsL_value) B.pre
  have hown : s.vm.findClass RL = some m.cls := findClass_of_methodNamed B.named
  have hlocks := B.notSynchronized
  have htab : c.exceptionTable.toList = [⟨0, 9, 12, 13⟩] := vx_table (x := yL_value) B (hts (.codeWith yL_value cL_value 4 (some .int) [(0, 9, 12, 13)]) List.mem_cons_self)
  subst hsz
  have hP : va_P (dC, dI) vwCl [(x, .inr (5, [.ref wa, .int wc, .ref sh, .ref po, .ref di])), (sh, .inr (3, [.ref va, .ref vw, .ref ho, .ref li])), (va, .inl (cI, 10, .inl f)), (o, .inl (cJ, 1, .inr (.inl g9)))] s.heap := hP
  have hPo := hP.sub (ws' := [(o, .inl (cJ, 1, .inr (.inl g9)))]) [3] rfl
  have hDo := (hD0.sub (ws' := [(o, .inl (cJ, 1, .inr (.inl g9)))]) [3] (by decide) rfl).self (sz := s.heap.size)
  generalize hAe : va_A [(o, .inl (cJ, 1, .inr (.inl g9)))] s.heap.size = A at hDo ⊢
  have hS : va_S A s.heap s.heap [] := va_S.rf
  have hl := lv_entry ([.ref x, .int v, .ref o]) (n := 4) (Nat.le_of_ble_eq_true rfl)
  rw [lg_entry_eq]
  generalize (lg_sl ([.ref x, .int v, .ref o]) ++ List.replicate (4 - (lg_sl ([.ref x, .int v, .ref o])).length) Slot.unset).toArray = ls at hl ⊢
  have hl : lv_has ls 4 [(0, .ref x), (1, .int v), (2, .ref o)] := hl
  refine lv_aload_n hx hb dL_value_0 rfl (lv_at hl 2 rfl) ?_
  refine lv_iconst (v := 0) hx hb dL_value_1 (by decide) ?_
  refine lv_aload_n hx hb dL_value_2 rfl (lv_at hl 0 rfl) ?_
  refine lv_iload_n hx hb dL_value_3 rfl (lv_at hl 1 rfl) ?_
  refine vx_calli (vx_runV (As := [.int v]) (rest := [.int 0, .ref o]) ⟨hx, hb, hml, hown, hts⟩ (c_value l hst dC dI cI n0 sa x wa sh po di va vw ho li wc f v) (cwV 1 hts gL_value_X5_value rfl rfl rfl (by decide +kernel) ⟨Nat.le_of_ble_eq_true rfl, Nat.le_of_ble_eq_true rfl⟩) (cxP_preV hKK (hP.sub [0, 1, 2] rfl) hE (va_recv hKK.1 hP (ci := 5) (q0 := 0) rfl rfl)) rfl rfl hl.1 rfl (lv_room (Nat.le_of_ble_eq_true rfl)) dL_value_4 ⟨Nat.le_of_ble_eq_true rfl, Nat.le_of_ble_eq_true rfl⟩) hS (fun _ _ h => h.elim) (fun _ h => h.elim) (fun _ _ h => h.elim) (fun E ce q9 u t H1 locs1 ht hal hpx hBX hz1 hk1 hS1 hce hcv hcl => ?_) (fun r u t H1 locs1 ht hal hw _ hz1 hk1 hS1 => ?_)
  · have hE9 : E = cxN := hBX
    subst hE9
    have hPo1 : va_P (dC, dI) vwCl [(o, .inl (cJ, 1, .inr (.inl g9)))] H1 := hPo.kept (fun k q hk => hk1 q.1 ((hPo k q hk).lt) (fun h => h))
    refine cx_catch (own := RL) (name := cxN) (E := cxN) hown ⟨0, 9, 12, 13⟩ htab (by decide) (by decide) (hts (.classLink RL 13 "java/lang/IndexOutOfBoundsException") (by decide +kernel)) (va_Nw.use rfl (hE.2.2.2 _ cxB_x)) hce hcv hcl ?_
    refine lv_astore_n (lv' := [(3, .ref q9), (0, .ref x), (1, .int v), (2, .ref o)]) hx hb dL_value_12 rfl hl (by decide) rfl (fun ls hl => ?_)
    refine lv_iconst (v := 1) hx hb dL_value_13 (by decide) ?_
    refine W.widen (k := 1) (n := 6) (by omega) (by omega) ?_
    exact W.iret (v := 1) hx hb hr (fun t ht hW => ⟨⟨1, g9, rfl, Or.inr ⟨rfl, hpx⟩, by rw [ht]; exact hPo1, hDo⟩, hS1.F ht⟩) hS1.2.2 dL_value_14
  · have hPo1 : va_P (dC, dI) vwCl [(o, .inl (cJ, 1, .inr (.inl g9)))] H1 := hPo.kept (fun k q hk => hk1 q.1 ((hPo k q hk).lt) (fun h => h))
    refine lv_i2l hx hb dL_value_7 rfl ?_
    refine va_last hx hb hKj hPo1 hDo hS1 0 1 rfl rfl (vp_in_iff.mpr (by decide)) dL_value_8 (fun H locs hP hD hS => ?_)
    refine lv_goto (tgt := 15) hx hb dL_value_9 (by decide) ?_
    refine lv_iconst (v := 0) hx hb dL_value_15 (by decide) ?_
    refine W.widen (k := 1) (n := 6) (by omega) (by omega) ?_
    exact W.iret (v := 0) hx hb hr (fun t ht hW => ⟨⟨0, vp_updL g9 (0 : Int32).toNatClampNeg r.toInt64, rfl, Or.inl ⟨rfl, ⟨hw.1, hw.2.1⟩, by rw [hw.2.2]; exact pk_uLs⟩, by rw [ht]; exact hP, hD⟩, hS.F ht⟩) hS.2.2 dL_value_16
