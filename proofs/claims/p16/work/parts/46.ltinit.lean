/-! LendThreads(): its first sixteen cells, then the works, seven cells each -/
def bX (cI cW : ClassId) (a : Nat → Nat) (f : Nat → Option Nat) : va_W := [(a 0, .inr (5, [.ref (a 1), .int 0, .ref (a 2), .ref (a 9), .ref (a 12)])), (a 1, .inl (cW, 12, .inr (.inr (.inr (.inr f))))), (a 2, .inr (3, [.ref (a 3), .ref (a 4), .ref (a 5), .ref (a 6)])), (a 3, .inl (cI, 10, .inl (fun _ => 0))), (a 4, .inl (cI, 10, .inl (fun _ => 0))), (a 5, .inl (cI, 10, .inl (fun _ => -1))), (a 6, .inr (2, [.int 12, .ref (a 7), .ref (a 8)])), (a 7, .inl (cI, 10, .inl (fun _ => 0))), (a 8, .inl (cI, 120, .inl (fun _ => 0))), (a 9, .inr (1, [.ref (a 10), .ref (a 11), .int 0])), (a 10, .inl (cI, 144, .inl (fun _ => 0))), (a 11, .inl (cI, 144, .inl (fun _ => 0))), (a 12, .inr (0, [.ref (a 13)])), (a 13, .inr (2, [.int 300, .ref (a 14), .ref (a 15)])), (a 14, .inl (cI, 1, .inl (fun _ => 0))), (a 15, .inl (cI, 300, .inl (fun _ => 0)))]
def wk7 (cI : ClassId) (a : Nat → Nat) (j : Nat) : va_W := [((a (16 + 7 * j)), .inr (4, [.int (nI j), .ref (a (16 + 7 * j + 1)), .ref (a (16 + 7 * j + 4)), .int 0, .int (-1), .int 0, .int 0, .int 0, .int 0, .int 0, .int 0, .int 0])), ((a (16 + 7 * j + 1)), .inr (2, [.int 4, .ref (a (16 + 7 * j + 2)), .ref (a (16 + 7 * j + 3))])), ((a (16 + 7 * j + 2)), .inl (cI, 10, .inl (fun _ => 0))), ((a (16 + 7 * j + 3)), .inl (cI, 40, .inl (fun _ => 0))), ((a (16 + 7 * j + 4)), .inr (2, [.int 2, .ref (a (16 + 7 * j + 5)), .ref (a (16 + 7 * j + 6))])), ((a (16 + 7 * j + 5)), .inl (cI, 10, .inl (fun _ => 0))), ((a (16 + 7 * j + 6)), .inl (cI, 20, .inl (fun _ => 0)))]
def pool (cI : ClassId) (a : Nat → Nat) (i : Nat) : va_W := (List.range i).flatMap (wk7 cI a)
theorem pool_s {cI : ClassId} {a : Nat → Nat} {i : Nat} : pool cI a (i + 1) = pool cI a i ++ wk7 cI a i := by
  simp [pool, List.range_succ]
theorem wk7_c {cI : ClassId} {a a' : Nat → Nat} {j : Nat} (h : ∀ k, k < 16 + 7 * j + 7 → a' k = a k) : wk7 cI a' j = wk7 cI a j := by
  unfold wk7
  rw [h (16 + 7 * j) (by omega), h (16 + 7 * j + 1) (by omega), h (16 + 7 * j + 2) (by omega), h (16 + 7 * j + 3) (by omega), h (16 + 7 * j + 4) (by omega), h (16 + 7 * j + 5) (by omega), h (16 + 7 * j + 6) (by omega)]
theorem pool_c {cI : ClassId} {a a' : Nat → Nat} : ∀ i : Nat, (∀ k, k < 16 + 7 * i → a' k = a k) → pool cI a' i = pool cI a i := by
  intro i
  induction i with
  | zero => intro _; rfl
  | succ i ih =>
    intro h
    rw [pool_s, pool_s, ih (fun k hk => h k (by omega)), wk7_c (fun k hk => h k (by omega))]
theorem bX_c {cI cW : ClassId} {a a' : Nat → Nat} {f : Nat → Option Nat} (h : ∀ k, k < 16 → a' k = a k) : bX cI cW a' f = bX cI cW a f := by
  unfold bX
  rw [h 0 (by decide), h 1 (by decide), h 2 (by decide), h 3 (by decide), h 4 (by decide), h 5 (by decide), h 6 (by decide), h 7 (by decide), h 8 (by decide), h 9 (by decide), h 10 (by decide), h 11 (by decide), h 12 (by decide), h 13 (by decide), h 14 (by decide), h 15 (by decide)]
theorem arr_x {cI : ClassId} {N : Nat} {f g : Nat → Value} (h : ∀ j, j < N → f j = g j) : arrV cI N f = arrV cI N g := by
  unfold arrV
  have : (fun j : Fin N => f j.val) = (fun j : Fin N => g j.val) := funext (fun j => h j.val j.isLt)
  rw [this]
theorem va_px {Dg : va_G} {cl : List vw_C} {ws : va_W} {H : Heap} {k a : Nat} {e e' : va_E} (h : va_P Dg cl ws H) (hk : ws[k]? = some (a, e)) (he : va_at Dg cl (a, e) H → va_at Dg cl (a, e') H) : va_P Dg cl (ws.set k (a, e')) H := by
  intro i q hq
  by_cases hi : i = k
  · subst hi
    rw [List.getElem?_set_self (List.getElem?_eq_some_iff.mp hk).1] at hq
    cases hq
    exact he (h i _ hk)
  · rw [List.getElem?_set_ne (fun q => hi q.symm)] at hq
    exact h i q hq
theorem va_pxI {Dg : va_G} {cl : List vw_C} {ws : va_W} {H : Heap} {k a n : Nat} {cA : ClassId} {f g : Nat → Int32} (h : va_P Dg cl ws H) (hk : ws[k]? = some (a, .inl (cA, n, .inl f))) (he : ∀ j, j < n → g j = f j) : va_P Dg cl (ws.set k (a, .inl (cA, n, .inl g))) H := by
  refine va_px h hk (fun q => ?_)
  show H[a]? = some (arrV cA n (fun j => .int (g j)))
  rw [arr_x (g := fun j => .int (f j)) (fun j hj => by rw [he j hj])]
  exact q
theorem va_pxQ {Dg : va_G} {cl : List vw_C} {ws : va_W} {H : Heap} {k a n : Nat} {cA : ClassId} {f g : Nat → Option Nat} (h : va_P Dg cl ws H) (hk : ws[k]? = some (a, .inl (cA, n, .inr (.inr (.inr (.inr f)))))) (he : ∀ j, j < n → g j = f j) : va_P Dg cl (ws.set k (a, .inl (cA, n, .inr (.inr (.inr (.inr g)))))) H := by
  refine va_px h hk (fun q => ?_)
  show H[a]? = some (arrV cA n (fun j => va_rf (g j)))
  rw [arr_x (g := fun j => va_rf (f j)) (fun j hj => by rw [he j hj])]
  exact q
/-- the memory of a new object -/
def M0 : Mem := fun k j => if k < 16 then (if k = 5 then -1 else if k = 6 then (if j = 0 then 12 else 0) else if k = 13 then (if j = 0 then 300 else 0) else 0) else if (k - 16) % 7 = 0 then (if j = 0 then nI ((k - 16) / 7) else if j = 4 then -1 else 0) else if (k - 16) % 7 = 1 then (if j = 0 then 4 else 0) else if (k - 16) % 7 = 4 then (if j = 0 then 2 else 0) else 0
set_option maxRecDepth 100000 in
theorem bX_all {cI cW : ClassId} {a : Nat → Nat} : bX cI cW a (fun i => some (a (16 + 7 * i))) ++ pool cI a 12 = cwl 100 a (enc cI cW a M0) := by rfl
theorem iX5_init_X4 : ∀ w ∈ u_ws RX4 TX4 12, w ∈ wsX5_init := by decide +kernel
theorem iX5_init_X5 : ∀ w ∈ u_ws RX5 TX5 5, w ∈ wsX5_init := by decide +kernel
set_option maxHeartbeats 4000000 in
set_option maxRecDepth 100000 in
theorem lt_loop {p : Program} {l : Launch} {e : Env} {s : State} {m : MethodId} {args : Array Value} {below : List Frame} {meth : Method} {c : Code} {A : Nat → Prop} {Q : State → Prop} (S : CallFix p m c cX5_init 2 s args wsX5_init RX5) {dC : Nat → ClassId} {dI : Nat → Nat → Nat} {cI cW : ClassId} (hKK : kb dC dI cI s) (hKw : va_K (dC, dI) vwCl [(cI, .int), (cW, .object RX4)] s) (hA : ∀ q : Nat, s.heap.size ≤ q → A q) {h0 : Nat}
    (kk : ∀ (a : Nat → Nat) (f : Nat → Option Nat) (H : Heap) (locs : List Loc) (ls : Array Slot), va_P (dC, dI) vwCl (bX cI cW a f ++ pool cI a 12) H → va_D A (bX cI cW a f ++ pool cI a 12) → va_S A s.heap H locs → (∀ j, j < 12 → f j = some (a (16 + 7 * j))) → a 0 = h0 → W p l e (headSpec wsX5_init ({ frames := 3, cells := 99, slots := 1963, locals := 60 })).room s m args below meth c H locs 99 1951 Q (F0 m 74 ls [])) : ∀ (d i : Nat), i + d = 12 → ∀ (a : Nat → Nat) (f : Nat → Option Nat) (H : Heap) (locs : List Loc) (ls : Array Slot), va_P (dC, dI) vwCl (bX cI cW a f ++ pool cI a i) H → va_D A (bX cI cW a f ++ pool cI a i) → va_S A s.heap H locs → (∀ j, j < i → f j = some (a (16 + 7 * j))) → a 0 = h0 → lv_has ls 2 [(1, .int (nI i)), (0, .ref (a 0))] → W p l e (headSpec wsX5_init ({ frames := 3, cells := 99, slots := 1963, locals := 60 })).room s m args below meth c H locs (15 + 7 * i) (775 + 98 * i) Q (F0 m 48 ls []) := by
  obtain ⟨hx, hb, hml, hown, hts⟩ := id S
  intro d
  induction d with
  | zero =>
    intro i hi a f H locs ls hP hD hS hf h0a hl
    have hi12 : i = 12 := by omega
    subst hi12
    refine lv_iload_n hx hb dX5_init_48 rfl (lv_at hl 0 rfl) ?_
    refine lv_bipush (v := 12) hx hb dX5_init_49 (by decide) ?_
    refine lv_icmp_ge (tgt := 74) hx hb dX5_init_51 (by decide) (fun c_1 => ?_) (fun c_1 => absurd (by decide) c_1)
    exact kk a f H locs ls hP hD hS hf h0a
  | succ d ih =>
    intro i hi a f H locs ls hP hD hS hf h0a hl
    refine lv_iload_n hx hb dX5_init_48 rfl (lv_at hl 0 rfl) ?_
    refine lv_bipush (v := 12) hx hb dX5_init_49 (by decide) ?_
    refine lv_icmp_ge (tgt := 74) hx hb dX5_init_51 (by decide) (fun c_1 => ?_) (fun c_1 => ?_)
    · rw [ti_le, ti_n12, ti_nI (by omega)] at c_1
      omega
    refine lv_aload_n hx hb dX5_init_54 rfl (lv_at hl 1 rfl) ?_
    refine va_get (D := (dC, dI)) (ci := 5) (v := .ref (a 1)) (C := RX5) (T := TX5) (N := 5) hx hb hts iX5_init_X5 hown hKw hP 0 rfl rfl 0 (by decide) (hts (.fieldLink RX5 11 "LendThreads" "works" "[LLendThreads$Work;") (by decide +kernel)) (fun _ h9 => h9) rfl dX5_init_55 ?_
    refine lv_iload_n hx hb dX5_init_58 rfl (lv_at hl 0 rfl) ?_
    refine va_new (ci := 4) (fs := [.int 0, .null, .null, .int 0, .int 0, .int 0, .int 0, .int 0, .int 0, .int 0, .int 0, .int 0]) (C := RX4) (T := TX4) (N := 12) hx hb hts iX5_init_X4 tyX4 tyX4_ok hown (hts (.classLink RX5 9 RX4) (by decide +kernel)) (hts (.instantiable RX4 12) (by decide +kernel)) (hts (.initialized RX4) (by decide +kernel)) hKw hP hD hS hA rfl (fun j hj => by rcases (show j = 0 ∨ j = 1 ∨ j = 2 ∨ j = 3 ∨ j = 4 ∨ j = 5 ∨ j = 6 ∨ j = 7 ∨ j = 8 ∨ j = 9 ∨ j = 10 ∨ j = 11 by omega) with rfl | rfl | rfl | rfl | rfl | rfl | rfl | rfl | rfl | rfl | rfl | rfl <;> rfl) (show 15 + 7 * i + 1 ≤ 99 by omega) (show 775 + 98 * i + 12 ≤ 1963 by omega) dX5_init_59 (fun q H hP hD hS => ?_)
    replace hP := hP.swap
    replace hD := hD.swap
    refine lv_dup hx hb dX5_init_62 rfl ?_
    refine lv_iload_n hx hb dX5_init_63 rfl (lv_at hl 0 rfl) ?_
    have hPc := hP.sub (ws' := [(q, .inr (4, [.int 0, .null, .null, .int 0, .int 0, .int 0, .int 0, .int 0, .int 0, .int 0, .int 0, .int 0]))]) [16] rfl
    have hDc := hD.sub (ws' := [(q, .inr (4, [.int 0, .null, .null, .int 0, .int 0, .int 0, .int 0, .int 0, .int 0, .int 0, .int 0, .int 0]))]) [16] (by decide) rfl
    have hFc := va_free (wc := [(q, .inr (4, [.int 0, .null, .null, .int 0, .int 0, .int 0, .int 0, .int 0, .int 0, .int 0, .int 0, .int 0]))]) hD hS hA [16] rfl
    refine va_callv (va_runI (As := [.int (nI i)]) (rest := [.ref q, .int (nI i), .ref (a 1)]) ⟨hx, hb, hml, hown, hts⟩ (c_Work_init l dC dI cI H.size q (nI i)) (cwI 1 hts gX5_init_X4_init rfl rfl rfl (hts (.initialized RX4) (by decide +kernel)) (hts (.methodLink RX5 36 yX4_init) (by decide +kernel)) (hts (.instanceMethod yX4_init) (by decide +kernel)) rfl (by decide +kernel) ⟨Nat.le_of_ble_eq_true rfl, Nat.le_of_ble_eq_true rfl⟩) (uP_preS hKK hPc hDc) rfl rfl hl.1 rfl (lv_room (Nat.le_of_ble_eq_true rfl)) dX5_init_64 ⟨(show 15 + 7 * i + 1 + 6 ≤ 99 by omega), (show 775 + 98 * i + 12 + 86 ≤ 1963 by omega)⟩) hS (fun q _ h => hFc q h) hFc (fun u t H1 locs ht hvm hw hB hz1 hk1 hS => ?_)
    obtain ⟨q1, q2, q3, q4, q5, q6⟩ := u
    obtain ⟨hP1, hD1⟩ := hB
    rw [ht] at hP1
    obtain ⟨hP, hD⟩ := va_joinQ (X := bX cI cW a f ++ [(q, .inr (4, [.int 0, .null, .null, .int 0, .int 0, .int 0, .int 0, .int 0, .int 0, .int 0, .int 0, .int 0]))]) (wr := bX cI cW a f) (w1 := [(q, .inr (4, [.int (nI i), .ref q1, .ref q4, .int 0, .int (-1), .int 0, .int 0, .int 0, .int 0, .int 0, .int 0, .int 0])), (q1, .inr (2, [.int 4, .ref q2, .ref q3])), (q2, .inl (cI, 10, .inl (fun _ => 0))), (q3, .inl (cI, 40, .inl (fun _ => 0))), (q4, .inr (2, [.int 2, .ref q5, .ref q6])), (q5, .inl (cI, 10, .inl (fun _ => 0))), (q6, .inl (cI, 20, .inl (fun _ => 0)))]) hP hD [16] [0, 1, 2, 3, 4, 5, 6, 7, 8, 9, 10, 11, 12, 13, 14, 15] rfl rfl (by decide) (by decide) hk1 hFc hP1 hD1
    generalize H1 = H at hP hS ⊢
    refine va_astq hx hb hKw hP hD hS 1 1 16 4 rfl rfl rfl rfl (vp_in_iff.mpr (by rw [nI_toInt (by omega)]; omega)) dX5_init_67 (fun H locs hP hD hS => ?_)
    rw [nI_clamp (show i < 2 ^ 31 by omega)] at hP hD
    have hP : va_P (dC, dI) vwCl ((bX cI cW a (va_up f i (some q)) ++ [(q, .inr (4, [.int (nI i), .ref q1, .ref q4, .int 0, .int (-1), .int 0, .int 0, .int 0, .int 0, .int 0, .int 0, .int 0])), (q1, .inr (2, [.int 4, .ref q2, .ref q3])), (q2, .inl (cI, 10, .inl (fun _ => 0))), (q3, .inl (cI, 40, .inl (fun _ => 0))), (q4, .inr (2, [.int 2, .ref q5, .ref q6])), (q5, .inl (cI, 10, .inl (fun _ => 0))), (q6, .inl (cI, 20, .inl (fun _ => 0)))]) ++ pool cI a i) H := hP
    have hD : va_D A ((bX cI cW a (va_up f i (some q)) ++ [(q, .inr (4, [.int (nI i), .ref q1, .ref q4, .int 0, .int (-1), .int 0, .int 0, .int 0, .int 0, .int 0, .int 0, .int 0])), (q1, .inr (2, [.int 4, .ref q2, .ref q3])), (q2, .inl (cI, 10, .inl (fun _ => 0))), (q3, .inl (cI, 40, .inl (fun _ => 0))), (q4, .inr (2, [.int 2, .ref q5, .ref q6])), (q5, .inl (cI, 10, .inl (fun _ => 0))), (q6, .inl (cI, 20, .inl (fun _ => 0)))]) ++ pool cI a i) := hD
    obtain ⟨a', ha'⟩ : ∃ a' : Nat → Nat, a' = fun k => if k < 16 + 7 * i then a k else ([q, q1, q2, q3, q4, q5, q6] : List Nat).getD (k - (16 + 7 * i)) 0 := ⟨_, rfl⟩
    have b1 : ∀ k, k < 16 + 7 * i → a' k = a k := fun k hk => by rw [ha']; exact if_pos hk
    have b2 : ∀ z, a' (16 + 7 * i + z) = ([q, q1, q2, q3, q4, q5, q6] : List Nat).getD z 0 := fun z => by
      rw [ha']
      show (if _ then _ else _) = _
      rw [if_neg (by omega), show 16 + 7 * i + z - (16 + 7 * i) = z by omega]
    have b20 : a' (16 + 7 * i) = q := b2 0
    have e1 : bX cI cW a (va_up f i (some q)) = bX cI cW a' (va_up f i (some q)) := (bX_c (fun k hk => b1 k (by omega))).symm
    have e2 : pool cI a i = pool cI a' i := (pool_c i b1).symm
    have e3 : ([(q, .inr (4, [.int (nI i), .ref q1, .ref q4, .int 0, .int (-1), .int 0, .int 0, .int 0, .int 0, .int 0, .int 0, .int 0])), (q1, .inr (2, [.int 4, .ref q2, .ref q3])), (q2, .inl (cI, 10, .inl (fun _ => 0))), (q3, .inl (cI, 40, .inl (fun _ => 0))), (q4, .inr (2, [.int 2, .ref q5, .ref q6])), (q5, .inl (cI, 10, .inl (fun _ => 0))), (q6, .inl (cI, 20, .inl (fun _ => 0)))] : va_W) = wk7 cI a' i := by
      unfold wk7
      rw [b20, b2 1, b2 2, b2 3, b2 4, b2 5, b2 6]
      rfl
    rw [e1, e2, e3] at hP hD
    replace hP := hP.swap
    replace hD := hD.swap
    rw [List.append_assoc, ← pool_s] at hP hD
    refine lv_iinc (v := nI (i + 1)) (lv' := [(1, .int (nI (i + 1))), (0, .ref (a 0))]) hx hb dX5_init_68 hl (k := 0) rfl (nI_succ i).symm (by decide) rfl (fun ls hl => ?_)
    refine lv_goto (tgt := 48) hx hb dX5_init_71 (by decide) ?_
    have h0a' : a' 0 = a 0 := b1 0 (by omega)
    refine W.widen (k := 15 + 7 * (i + 1)) (n := 775 + 98 * (i + 1)) (by omega) (by omega) ?_
    refine ih (i + 1) (by omega) a' _ H locs ls hP hD hS (fun j hj => ?_) (h0a'.trans h0a) (by rw [h0a']; exact hl)
    by_cases e : j = i
    · subst e; rw [va_up_self, b20]
    · rw [va_up_ne _ _ e, hf j (by omega), b1 _ (by omega)]
/-- .. with the class of arrays of works -/
def uPa (dC : Nat → ClassId) (dI : Nat → Nat → Nat) (cI : ClassId) (av : List Value) (ws : va_W) (sz : Nat) : Array Value → State → Prop := fun a U => uP dC dI cI av ws sz a U ∧ va_AO RX4 U
theorem uPa_preS {dC : Nat → ClassId} {dI : Nat → Nat → Nat} {cI : ClassId} {av : List Value} {ws : va_W} {s : State} {H : Heap} {A : Nat → Prop} (hK : kb dC dI cI s) (hAO : va_AO RX4 s) (hP : va_P (dC, dI) vwCl ws H) (hD : va_D A ws) : PreS s H (uPa dC dI cI av ws H.size) av :=
  ⟨fun a U g mk q => ⟨uP_blind a U g mk q.1, va_AO.moved (u := U) (U := U.calling g mk a) (Vm.Alike.refl U.vm) q.2⟩, fun U hU hW => ⟨⟨rfl, by rw [hU], by rw [hU]; exact hP, hK.warm hW, hD.weaken (fun _ _ _ _ => trivial)⟩, va_AO.moved hW.alike hAO⟩⟩
theorem iX5_init_X0 : ∀ w ∈ u_ws RX0 TX0 1, w ∈ wsX5_init := by decide +kernel
theorem iX5_init_X1 : ∀ w ∈ u_ws RX1 TX1 3, w ∈ wsX5_init := by decide +kernel
theorem iX5_init_X3 : ∀ w ∈ u_ws RX3 TX3 4, w ∈ wsX5_init := by decide +kernel
set_option maxHeartbeats 4000000 in
set_option maxRecDepth 100000 in
/-- LendThreads() -/
theorem k_LT_init (l : Launch) (dC : Nat → ClassId) (dI : Nat → Nat → Nat) (cI : ClassId) (sz : Nat) (h0 : Nat) : Met l yX5_init wsX5_init ({ frames := 3, cells := 99, slots := 1963, locals := 60 }) (uPa dC dI cI [.ref h0] [(h0, .inr (5, [.null, .int 0, .null, .null, .null]))] sz) (va_Qv (fun u => u.2 0 = h0 ∧ Inj 100 u.2) (fun (u : ClassId × (Nat → Nat)) t => uB dC dI (va_A [(h0, .inr (5, [.null, .int 0, .null, .null, .null]))] sz) (cwl 100 u.2 (enc cI u.1 u.2 M0)) t ∧ va_K (dC, dI) vwCl [(cI, .int), (u.1, .object RX4)] t) (va_A [(h0, .inr (5, [.null, .int 0, .null, .null, .null]))] sz)) 99 1963 (va_A [(h0, .inr (5, [.null, .int 0, .null, .null, .null]))] sz) := by
  refine Met.ofW (cc := cX5_init) (maxL := 2) (ret := none) (by decide) rfl ?_
  intro p e s m args below meth c s₁ B hml hv
  obtain ⟨⟨rfl, hsz, hP, hKK, hD0⟩, hAO⟩ := hv
  have hx := B.exec
  have hb := B.bytes
  have hr := B.returns
  have hts := atoms_spec (ws := wsX5_init) B.pre
  have hown : s.vm.findClass RX5 = some m.cls := findClass_of_methodNamed B.named
  have hlocks := B.notSynchronized
  have hin : meth.name = "<init>" := (name_of_methodNamed B.named B.method).1
  subst hsz
  have hD := hD0.self (sz := s.heap.size)
  generalize hAe : va_A [(h0, .inr (5, [.null, .int 0, .null, .null, .null]))] s.heap.size = A at hD ⊢
  have hA : ∀ q : Nat, s.heap.size ≤ q → A q := fun q h => by rw [← hAe]; exact Or.inr h
  have hS : va_S A s.heap s.heap [] := va_S.rf
  have hP : va_P (dC, dI) vwCl [(h0, .inr (5, [.null, .int 0, .null, .null, .null]))] s.heap := hP
  have hl := lv_entry ([.ref h0]) (n := 2) (Nat.le_of_ble_eq_true rfl)
  rw [lg_entry_eq]
  generalize (lg_sl ([.ref h0]) ++ List.replicate (2 - (lg_sl ([.ref h0])).length) Slot.unset).toArray = ls at hl ⊢
  have hl : lv_has ls 2 [(0, .ref h0)] := hl
  refine lv_aload_n hx hb dX5_init_0 rfl (lv_at hl 0 rfl) ?_
  refine W.objInit hx hb hown (hts (.methodLink RX5 1 objectInit) (by decide +kernel)) (hts (.instanceMethod objectInit) (by decide +kernel)) (hts (.code objectInit ⟨#[0xb1]⟩ 1 none) (by decide +kernel)) rfl (by rw [hml]; exact hl.1) rfl dX5_init_1 (Nat.le_of_ble_eq_true rfl) (Nat.le_of_ble_eq_true rfl) ?_
  refine W.eq (g2 := F0 m 4 ls []) rfl ?_
  refine lv_aload_n hx hb dX5_init_4 rfl (lv_at hl 0 rfl) ?_
  refine lv_bipush (v := 12) hx hb dX5_init_5 (by decide) ?_
  refine va_newq hx hb hown (hts (.classLink RX5 9 RX4) (by decide +kernel)) hAO hKK.1 hP hD hS hA (N' := 12) (by decide) (by decide) (by decide) (show 0 + 1 ≤ 99 by omega) (show 0 + 12 ≤ 1963 by omega) dX5_init_7 (fun q_1 cW H hKw hP hD hS => ?_)
  have hP : va_P (dC, dI) vwCl [(h0, .inr (5, [.null, .int 0, .null, .null, .null])), (q_1, .inl (cW, 12, .inr (.inr (.inr (.inr (fun _ => none))))))] H := hP
  have hD : va_D A [(h0, .inr (5, [.null, .int 0, .null, .null, .null])), (q_1, .inl (cW, 12, .inr (.inr (.inr (.inr (fun _ => none))))))] := hD
  have hKw : va_K (dC, dI) vwCl [(cI, .int), (cW, .object RX4)] s := hKw
  refine va_putF (D := (dC, dI)) (ci := 5) (v := .ref q_1) (ty := .array (.object "LendThreads$Work")) (C := RX5) (T := TX5) (N := 5) hx hb hts iX5_init_X5 tyX5 tyX5_ok nmX5 hown hKw hP hD hS 0 rfl rfl 0 (by decide) (hts (.fieldLink RX5 11 "LendThreads" "works" "[LLendThreads$Work;") (by decide +kernel)) (fun _ h9 => h9) rfl hin rfl (by decide +kernel) rfl rfl (Nat.le_of_ble_eq_true rfl) dX5_init_10 (fun H locs hP hD hS => ?_)
  have hP : va_P (dC, dI) vwCl [(h0, .inr (5, [.ref q_1, .int 0, .null, .null, .null])), (q_1, .inl (cW, 12, .inr (.inr (.inr (.inr (fun _ => none))))))] H := hP
  have hD : va_D A [(h0, .inr (5, [.ref q_1, .int 0, .null, .null, .null])), (q_1, .inl (cW, 12, .inr (.inr (.inr (.inr (fun _ => none))))))] := hD
  refine lv_aload_n hx hb dX5_init_13 rfl (lv_at hl 0 rfl) ?_
  refine va_new (ci := 3) (fs := [.null, .null, .null, .null]) (C := RX3) (T := TX3) (N := 4) hx hb hts iX5_init_X3 tyX3 tyX3_ok hown (hts (.classLink RX5 15 RX3) (by decide +kernel)) (hts (.instantiable RX3 4) (by decide +kernel)) (hts (.initialized RX3) (by decide +kernel)) hKw hP hD hS hA rfl (fun j hj => by rcases (show j = 0 ∨ j = 1 ∨ j = 2 ∨ j = 3 by omega) with rfl | rfl | rfl | rfl <;> rfl) (show 0 + 1 + 1 ≤ 99 by omega) (show 0 + 12 + 4 ≤ 1963 by omega) dX5_init_14 (fun q_2 H hP hD hS => ?_)
  have hP : va_P (dC, dI) vwCl [(h0, .inr (5, [.ref q_1, .int 0, .null, .null, .null])), (q_1, .inl (cW, 12, .inr (.inr (.inr (.inr (fun _ => none)))))), (q_2, .inr (3, [.null, .null, .null, .null]))] H := hP
  have hD : va_D A [(h0, .inr (5, [.ref q_1, .int 0, .null, .null, .null])), (q_1, .inl (cW, 12, .inr (.inr (.inr (.inr (fun _ => none)))))), (q_2, .inr (3, [.null, .null, .null, .null]))] := hD
  refine lv_dup hx hb dX5_init_17 rfl ?_
  have hPc := hP.sub (ws' := [(q_2, .inr (3, [.null, .null, .null, .null]))]) [2] rfl
  have hDc := hD.sub (ws' := [(q_2, .inr (3, [.null, .null, .null, .null]))]) [2] (by decide) rfl
  have hFc := va_free (wc := [(q_2, .inr (3, [.null, .null, .null, .null]))]) hD hS hA [2] rfl
  refine va_callv (va_runI (As := []) (rest := [.ref q_2, .ref h0]) ⟨hx, hb, hml, hown, hts⟩ (c_Shelf_init l dC dI cI H.size q_2) (cwI 0 hts gX5_init_X3_init rfl rfl rfl (hts (.initialized RX3) (by decide +kernel)) (hts (.methodLink RX5 17 yX3_init) (by decide +kernel)) (hts (.instanceMethod yX3_init) (by decide +kernel)) rfl (by decide +kernel) ⟨Nat.le_of_ble_eq_true rfl, Nat.le_of_ble_eq_true rfl⟩) (uP_preS hKK hPc hDc) rfl rfl hl.1 rfl (lv_room (Nat.le_of_ble_eq_true rfl)) dX5_init_18 ⟨(show 0 + 1 + 1 + 6 ≤ 99 by omega), (show 0 + 12 + 4 + 163 ≤ 1963 by omega)⟩) hS (fun q _ h => hFc q h) hFc (fun u t H1 locs ht hvm hw hB hz1 hk1 hS => ?_)
  obtain ⟨q_3, q_4, q_5, q_6, q_7, q_8, q_9⟩ := u
  obtain ⟨hP1, hD1⟩ := hB
  rw [ht] at hP1
  obtain ⟨hP, hD⟩ := va_join (wr := [(h0, .inr (5, [.ref q_1, .int 0, .null, .null, .null])), (q_1, .inl (cW, 12, .inr (.inr (.inr (.inr (fun _ => none))))))]) (w1 := [(q_2, .inr (3, [.ref q_3, .ref q_4, .ref q_5, .ref q_6])), (q_3, .inl (cI, 10, .inl (fun _ => 0))), (q_4, .inl (cI, 10, .inl (fun _ => 0))), (q_5, .inl (cI, 10, .inl q_9)), (q_6, .inr (2, [.int 12, .ref q_7, .ref q_8])), (q_7, .inl (cI, 10, .inl (fun _ => 0))), (q_8, .inl (cI, 120, .inl (fun _ => 0)))]) hP hD [2] [0, 1] rfl rfl (by decide) (by decide) hk1 hFc hP1 hD1
  generalize H1 = H at hP hS ⊢
  have hP : va_P (dC, dI) vwCl [(h0, .inr (5, [.ref q_1, .int 0, .null, .null, .null])), (q_1, .inl (cW, 12, .inr (.inr (.inr (.inr (fun _ => none)))))), (q_2, .inr (3, [.ref q_3, .ref q_4, .ref q_5, .ref q_6])), (q_3, .inl (cI, 10, .inl (fun _ => 0))), (q_4, .inl (cI, 10, .inl (fun _ => 0))), (q_5, .inl (cI, 10, .inl q_9)), (q_6, .inr (2, [.int 12, .ref q_7, .ref q_8])), (q_7, .inl (cI, 10, .inl (fun _ => 0))), (q_8, .inl (cI, 120, .inl (fun _ => 0)))] H := hP
  have hD : va_D A [(h0, .inr (5, [.ref q_1, .int 0, .null, .null, .null])), (q_1, .inl (cW, 12, .inr (.inr (.inr (.inr (fun _ => none)))))), (q_2, .inr (3, [.ref q_3, .ref q_4, .ref q_5, .ref q_6])), (q_3, .inl (cI, 10, .inl (fun _ => 0))), (q_4, .inl (cI, 10, .inl (fun _ => 0))), (q_5, .inl (cI, 10, .inl q_9)), (q_6, .inr (2, [.int 12, .ref q_7, .ref q_8])), (q_7, .inl (cI, 10, .inl (fun _ => 0))), (q_8, .inl (cI, 120, .inl (fun _ => 0)))] := hD
  have hw_sh := hw
  replace hP := va_pxI (g := fun _ => -1) hP (k := 5) rfl (fun j hj => (hw_sh j hj).symm)
  replace hD := hD.set (p := 5) (e := .inl (cI, 10, .inl (fun _ => -1))) rfl
  have hP : va_P (dC, dI) vwCl [(h0, .inr (5, [.ref q_1, .int 0, .null, .null, .null])), (q_1, .inl (cW, 12, .inr (.inr (.inr (.inr (fun _ => none)))))), (q_2, .inr (3, [.ref q_3, .ref q_4, .ref q_5, .ref q_6])), (q_3, .inl (cI, 10, .inl (fun _ => 0))), (q_4, .inl (cI, 10, .inl (fun _ => 0))), (q_5, .inl (cI, 10, .inl (fun _ => -1))), (q_6, .inr (2, [.int 12, .ref q_7, .ref q_8])), (q_7, .inl (cI, 10, .inl (fun _ => 0))), (q_8, .inl (cI, 120, .inl (fun _ => 0)))] H := hP
  have hD : va_D A [(h0, .inr (5, [.ref q_1, .int 0, .null, .null, .null])), (q_1, .inl (cW, 12, .inr (.inr (.inr (.inr (fun _ => none)))))), (q_2, .inr (3, [.ref q_3, .ref q_4, .ref q_5, .ref q_6])), (q_3, .inl (cI, 10, .inl (fun _ => 0))), (q_4, .inl (cI, 10, .inl (fun _ => 0))), (q_5, .inl (cI, 10, .inl (fun _ => -1))), (q_6, .inr (2, [.int 12, .ref q_7, .ref q_8])), (q_7, .inl (cI, 10, .inl (fun _ => 0))), (q_8, .inl (cI, 120, .inl (fun _ => 0)))] := hD
  refine va_putF (D := (dC, dI)) (ci := 5) (v := .ref q_2) (ty := .object "LendThreads$Shelf") (C := RX5) (T := TX5) (N := 5) hx hb hts iX5_init_X5 tyX5 tyX5_ok nmX5 hown hKw hP hD hS 0 rfl rfl 2 (by decide) (hts (.fieldLink RX5 18 "LendThreads" "shelf" "LLendThreads$Shelf;") (by decide +kernel)) (fun _ h9 => h9) rfl hin rfl (by decide +kernel) rfl rfl (Nat.le_of_ble_eq_true rfl) dX5_init_21 (fun H locs hP hD hS => ?_)
  have hP : va_P (dC, dI) vwCl [(h0, .inr (5, [.ref q_1, .int 0, .ref q_2, .null, .null])), (q_1, .inl (cW, 12, .inr (.inr (.inr (.inr (fun _ => none)))))), (q_2, .inr (3, [.ref q_3, .ref q_4, .ref q_5, .ref q_6])), (q_3, .inl (cI, 10, .inl (fun _ => 0))), (q_4, .inl (cI, 10, .inl (fun _ => 0))), (q_5, .inl (cI, 10, .inl (fun _ => -1))), (q_6, .inr (2, [.int 12, .ref q_7, .ref q_8])), (q_7, .inl (cI, 10, .inl (fun _ => 0))), (q_8, .inl (cI, 120, .inl (fun _ => 0)))] H := hP
  have hD : va_D A [(h0, .inr (5, [.ref q_1, .int 0, .ref q_2, .null, .null])), (q_1, .inl (cW, 12, .inr (.inr (.inr (.inr (fun _ => none)))))), (q_2, .inr (3, [.ref q_3, .ref q_4, .ref q_5, .ref q_6])), (q_3, .inl (cI, 10, .inl (fun _ => 0))), (q_4, .inl (cI, 10, .inl (fun _ => 0))), (q_5, .inl (cI, 10, .inl (fun _ => -1))), (q_6, .inr (2, [.int 12, .ref q_7, .ref q_8])), (q_7, .inl (cI, 10, .inl (fun _ => 0))), (q_8, .inl (cI, 120, .inl (fun _ => 0)))] := hD
  refine lv_aload_n hx hb dX5_init_24 rfl (lv_at hl 0 rfl) ?_
  refine va_new (ci := 1) (fs := [.null, .null, .int 0]) (C := RX1) (T := TX1) (N := 3) hx hb hts iX5_init_X1 tyX1 tyX1_ok hown (hts (.classLink RX5 22 RX1) (by decide +kernel)) (hts (.instantiable RX1 3) (by decide +kernel)) (hts (.initialized RX1) (by decide +kernel)) hKw hP hD hS hA rfl (fun j hj => by rcases (show j = 0 ∨ j = 1 ∨ j = 2 by omega) with rfl | rfl | rfl <;> rfl) (show 0 + 1 + 1 + 6 + 1 ≤ 99 by omega) (show 0 + 12 + 4 + 163 + 3 ≤ 1963 by omega) dX5_init_25 (fun q_10 H hP hD hS => ?_)
  have hP : va_P (dC, dI) vwCl [(h0, .inr (5, [.ref q_1, .int 0, .ref q_2, .null, .null])), (q_1, .inl (cW, 12, .inr (.inr (.inr (.inr (fun _ => none)))))), (q_2, .inr (3, [.ref q_3, .ref q_4, .ref q_5, .ref q_6])), (q_3, .inl (cI, 10, .inl (fun _ => 0))), (q_4, .inl (cI, 10, .inl (fun _ => 0))), (q_5, .inl (cI, 10, .inl (fun _ => -1))), (q_6, .inr (2, [.int 12, .ref q_7, .ref q_8])), (q_7, .inl (cI, 10, .inl (fun _ => 0))), (q_8, .inl (cI, 120, .inl (fun _ => 0))), (q_10, .inr (1, [.null, .null, .int 0]))] H := hP
  have hD : va_D A [(h0, .inr (5, [.ref q_1, .int 0, .ref q_2, .null, .null])), (q_1, .inl (cW, 12, .inr (.inr (.inr (.inr (fun _ => none)))))), (q_2, .inr (3, [.ref q_3, .ref q_4, .ref q_5, .ref q_6])), (q_3, .inl (cI, 10, .inl (fun _ => 0))), (q_4, .inl (cI, 10, .inl (fun _ => 0))), (q_5, .inl (cI, 10, .inl (fun _ => -1))), (q_6, .inr (2, [.int 12, .ref q_7, .ref q_8])), (q_7, .inl (cI, 10, .inl (fun _ => 0))), (q_8, .inl (cI, 120, .inl (fun _ => 0))), (q_10, .inr (1, [.null, .null, .int 0]))] := hD
  refine lv_dup hx hb dX5_init_28 rfl ?_
  have hPc := hP.sub (ws' := [(q_10, .inr (1, [.null, .null, .int 0]))]) [9] rfl
  have hDc := hD.sub (ws' := [(q_10, .inr (1, [.null, .null, .int 0]))]) [9] (by decide) rfl
  have hFc := va_free (wc := [(q_10, .inr (1, [.null, .null, .int 0]))]) hD hS hA [9] rfl
  refine va_callv (va_runIN (As := []) (rest := [.ref q_10, .ref h0]) ⟨hx, hb, hml, hown, hts⟩ (c_Post_init l dC dI cI H.size q_10) ⟨va_cnB 0 hts gX5_init_X1_init_n24 rfl rfl rfl (hKK.2.2 (.methodLinkNest RX5 24 yX1_init RX5) (by decide +kernel)) (hts (.initialized RX1) (by decide +kernel)) (by decide +kernel) ⟨Nat.le_of_ble_eq_true rfl, Nat.le_of_ble_eq_true rfl⟩, rfl, hts (.instanceMethod yX1_init) (by decide +kernel)⟩ (uP_preS hKK hPc hDc) rfl rfl hl.1 rfl (lv_room (Nat.le_of_ble_eq_true rfl)) dX5_init_29 ⟨(show 0 + 1 + 1 + 6 + 1 + 2 ≤ 99 by omega), (show 0 + 12 + 4 + 163 + 3 + 288 ≤ 1963 by omega)⟩) hS (fun q _ h => hFc q h) hFc (fun u t H1 locs ht hvm hw hB hz1 hk1 hS => ?_)
  obtain ⟨q_11, q_12⟩ := u
  obtain ⟨hP1, hD1⟩ := hB
  rw [ht] at hP1
  obtain ⟨hP, hD⟩ := va_join (wr := [(h0, .inr (5, [.ref q_1, .int 0, .ref q_2, .null, .null])), (q_1, .inl (cW, 12, .inr (.inr (.inr (.inr (fun _ => none)))))), (q_2, .inr (3, [.ref q_3, .ref q_4, .ref q_5, .ref q_6])), (q_3, .inl (cI, 10, .inl (fun _ => 0))), (q_4, .inl (cI, 10, .inl (fun _ => 0))), (q_5, .inl (cI, 10, .inl (fun _ => -1))), (q_6, .inr (2, [.int 12, .ref q_7, .ref q_8])), (q_7, .inl (cI, 10, .inl (fun _ => 0))), (q_8, .inl (cI, 120, .inl (fun _ => 0)))]) (w1 := [(q_10, .inr (1, [.ref q_11, .ref q_12, .int 0])), (q_11, .inl (cI, 144, .inl (fun _ => 0))), (q_12, .inl (cI, 144, .inl (fun _ => 0)))]) hP hD [9] [0, 1, 2, 3, 4, 5, 6, 7, 8] rfl rfl (by decide) (by decide) hk1 hFc hP1 hD1
  generalize H1 = H at hP hS ⊢
  have hP : va_P (dC, dI) vwCl [(h0, .inr (5, [.ref q_1, .int 0, .ref q_2, .null, .null])), (q_1, .inl (cW, 12, .inr (.inr (.inr (.inr (fun _ => none)))))), (q_2, .inr (3, [.ref q_3, .ref q_4, .ref q_5, .ref q_6])), (q_3, .inl (cI, 10, .inl (fun _ => 0))), (q_4, .inl (cI, 10, .inl (fun _ => 0))), (q_5, .inl (cI, 10, .inl (fun _ => -1))), (q_6, .inr (2, [.int 12, .ref q_7, .ref q_8])), (q_7, .inl (cI, 10, .inl (fun _ => 0))), (q_8, .inl (cI, 120, .inl (fun _ => 0))), (q_10, .inr (1, [.ref q_11, .ref q_12, .int 0])), (q_11, .inl (cI, 144, .inl (fun _ => 0))), (q_12, .inl (cI, 144, .inl (fun _ => 0)))] H := hP
  have hD : va_D A [(h0, .inr (5, [.ref q_1, .int 0, .ref q_2, .null, .null])), (q_1, .inl (cW, 12, .inr (.inr (.inr (.inr (fun _ => none)))))), (q_2, .inr (3, [.ref q_3, .ref q_4, .ref q_5, .ref q_6])), (q_3, .inl (cI, 10, .inl (fun _ => 0))), (q_4, .inl (cI, 10, .inl (fun _ => 0))), (q_5, .inl (cI, 10, .inl (fun _ => -1))), (q_6, .inr (2, [.int 12, .ref q_7, .ref q_8])), (q_7, .inl (cI, 10, .inl (fun _ => 0))), (q_8, .inl (cI, 120, .inl (fun _ => 0))), (q_10, .inr (1, [.ref q_11, .ref q_12, .int 0])), (q_11, .inl (cI, 144, .inl (fun _ => 0))), (q_12, .inl (cI, 144, .inl (fun _ => 0)))] := hD
  refine va_putF (D := (dC, dI)) (ci := 5) (v := .ref q_10) (ty := .object "LendThreads$Post") (C := RX5) (T := TX5) (N := 5) hx hb hts iX5_init_X5 tyX5 tyX5_ok nmX5 hown hKw hP hD hS 0 rfl rfl 3 (by decide) (hts (.fieldLink RX5 25 "LendThreads" "post" "LLendThreads$Post;") (by decide +kernel)) (fun _ h9 => h9) rfl hin rfl (by decide +kernel) rfl rfl (Nat.le_of_ble_eq_true rfl) dX5_init_32 (fun H locs hP hD hS => ?_)
  have hP : va_P (dC, dI) vwCl [(h0, .inr (5, [.ref q_1, .int 0, .ref q_2, .ref q_10, .null])), (q_1, .inl (cW, 12, .inr (.inr (.inr (.inr (fun _ => none)))))), (q_2, .inr (3, [.ref q_3, .ref q_4, .ref q_5, .ref q_6])), (q_3, .inl (cI, 10, .inl (fun _ => 0))), (q_4, .inl (cI, 10, .inl (fun _ => 0))), (q_5, .inl (cI, 10, .inl (fun _ => -1))), (q_6, .inr (2, [.int 12, .ref q_7, .ref q_8])), (q_7, .inl (cI, 10, .inl (fun _ => 0))), (q_8, .inl (cI, 120, .inl (fun _ => 0))), (q_10, .inr (1, [.ref q_11, .ref q_12, .int 0])), (q_11, .inl (cI, 144, .inl (fun _ => 0))), (q_12, .inl (cI, 144, .inl (fun _ => 0)))] H := hP
  have hD : va_D A [(h0, .inr (5, [.ref q_1, .int 0, .ref q_2, .ref q_10, .null])), (q_1, .inl (cW, 12, .inr (.inr (.inr (.inr (fun _ => none)))))), (q_2, .inr (3, [.ref q_3, .ref q_4, .ref q_5, .ref q_6])), (q_3, .inl (cI, 10, .inl (fun _ => 0))), (q_4, .inl (cI, 10, .inl (fun _ => 0))), (q_5, .inl (cI, 10, .inl (fun _ => -1))), (q_6, .inr (2, [.int 12, .ref q_7, .ref q_8])), (q_7, .inl (cI, 10, .inl (fun _ => 0))), (q_8, .inl (cI, 120, .inl (fun _ => 0))), (q_10, .inr (1, [.ref q_11, .ref q_12, .int 0])), (q_11, .inl (cI, 144, .inl (fun _ => 0))), (q_12, .inl (cI, 144, .inl (fun _ => 0)))] := hD
  refine lv_aload_n hx hb dX5_init_35 rfl (lv_at hl 0 rfl) ?_
  refine va_new (ci := 0) (fs := [.null]) (C := RX0) (T := TX0) (N := 1) hx hb hts iX5_init_X0 tyX0 tyX0_ok hown (hts (.classLink RX5 29 RX0) (by decide +kernel)) (hts (.instantiable RX0 1) (by decide +kernel)) (hts (.initialized RX0) (by decide +kernel)) hKw hP hD hS hA rfl (fun j hj => by rcases (show j = 0 by omega) with rfl <;> rfl) (show 0 + 1 + 1 + 6 + 1 + 2 + 1 ≤ 99 by omega) (show 0 + 12 + 4 + 163 + 3 + 288 + 1 ≤ 1963 by omega) dX5_init_36 (fun q_13 H hP hD hS => ?_)
  have hP : va_P (dC, dI) vwCl [(h0, .inr (5, [.ref q_1, .int 0, .ref q_2, .ref q_10, .null])), (q_1, .inl (cW, 12, .inr (.inr (.inr (.inr (fun _ => none)))))), (q_2, .inr (3, [.ref q_3, .ref q_4, .ref q_5, .ref q_6])), (q_3, .inl (cI, 10, .inl (fun _ => 0))), (q_4, .inl (cI, 10, .inl (fun _ => 0))), (q_5, .inl (cI, 10, .inl (fun _ => -1))), (q_6, .inr (2, [.int 12, .ref q_7, .ref q_8])), (q_7, .inl (cI, 10, .inl (fun _ => 0))), (q_8, .inl (cI, 120, .inl (fun _ => 0))), (q_10, .inr (1, [.ref q_11, .ref q_12, .int 0])), (q_11, .inl (cI, 144, .inl (fun _ => 0))), (q_12, .inl (cI, 144, .inl (fun _ => 0))), (q_13, .inr (0, [.null]))] H := hP
  have hD : va_D A [(h0, .inr (5, [.ref q_1, .int 0, .ref q_2, .ref q_10, .null])), (q_1, .inl (cW, 12, .inr (.inr (.inr (.inr (fun _ => none)))))), (q_2, .inr (3, [.ref q_3, .ref q_4, .ref q_5, .ref q_6])), (q_3, .inl (cI, 10, .inl (fun _ => 0))), (q_4, .inl (cI, 10, .inl (fun _ => 0))), (q_5, .inl (cI, 10, .inl (fun _ => -1))), (q_6, .inr (2, [.int 12, .ref q_7, .ref q_8])), (q_7, .inl (cI, 10, .inl (fun _ => 0))), (q_8, .inl (cI, 120, .inl (fun _ => 0))), (q_10, .inr (1, [.ref q_11, .ref q_12, .int 0])), (q_11, .inl (cI, 144, .inl (fun _ => 0))), (q_12, .inl (cI, 144, .inl (fun _ => 0))), (q_13, .inr (0, [.null]))] := hD
  refine lv_dup hx hb dX5_init_39 rfl ?_
  have hPc := hP.sub (ws' := [(q_13, .inr (0, [.null]))]) [12] rfl
  have hDc := hD.sub (ws' := [(q_13, .inr (0, [.null]))]) [12] (by decide) rfl
  have hFc := va_free (wc := [(q_13, .inr (0, [.null]))]) hD hS hA [12] rfl
  refine va_callv (va_runIN (As := []) (rest := [.ref q_13, .ref h0]) ⟨hx, hb, hml, hown, hts⟩ (c_Diary_init l dC dI cI H.size q_13) ⟨va_cnB 0 hts gX5_init_X0_init_n31 rfl rfl rfl (hKK.2.2 (.methodLinkNest RX5 31 yX0_init RX5) (by decide +kernel)) (hts (.initialized RX0) (by decide +kernel)) (by decide +kernel) ⟨Nat.le_of_ble_eq_true rfl, Nat.le_of_ble_eq_true rfl⟩, rfl, hts (.instanceMethod yX0_init) (by decide +kernel)⟩ (uP_preS hKK hPc hDc) rfl rfl hl.1 rfl (lv_room (Nat.le_of_ble_eq_true rfl)) dX5_init_40 ⟨(show 0 + 1 + 1 + 6 + 1 + 2 + 1 + 3 ≤ 99 by omega), (show 0 + 12 + 4 + 163 + 3 + 288 + 1 + 304 ≤ 1963 by omega)⟩) hS (fun q _ h => hFc q h) hFc (fun u t H1 locs ht hvm hw hB hz1 hk1 hS => ?_)
  obtain ⟨q_14, q_15, q_16⟩ := u
  obtain ⟨hP1, hD1⟩ := hB
  rw [ht] at hP1
  obtain ⟨hP, hD⟩ := va_join (wr := [(h0, .inr (5, [.ref q_1, .int 0, .ref q_2, .ref q_10, .null])), (q_1, .inl (cW, 12, .inr (.inr (.inr (.inr (fun _ => none)))))), (q_2, .inr (3, [.ref q_3, .ref q_4, .ref q_5, .ref q_6])), (q_3, .inl (cI, 10, .inl (fun _ => 0))), (q_4, .inl (cI, 10, .inl (fun _ => 0))), (q_5, .inl (cI, 10, .inl (fun _ => -1))), (q_6, .inr (2, [.int 12, .ref q_7, .ref q_8])), (q_7, .inl (cI, 10, .inl (fun _ => 0))), (q_8, .inl (cI, 120, .inl (fun _ => 0))), (q_10, .inr (1, [.ref q_11, .ref q_12, .int 0])), (q_11, .inl (cI, 144, .inl (fun _ => 0))), (q_12, .inl (cI, 144, .inl (fun _ => 0)))]) (w1 := [(q_13, .inr (0, [.ref q_14])), (q_14, .inr (2, [.int 300, .ref q_15, .ref q_16])), (q_15, .inl (cI, 1, .inl (fun _ => 0))), (q_16, .inl (cI, 300, .inl (fun _ => 0)))]) hP hD [12] [0, 1, 2, 3, 4, 5, 6, 7, 8, 9, 10, 11] rfl rfl (by decide) (by decide) hk1 hFc hP1 hD1
  generalize H1 = H at hP hS ⊢
  have hP : va_P (dC, dI) vwCl [(h0, .inr (5, [.ref q_1, .int 0, .ref q_2, .ref q_10, .null])), (q_1, .inl (cW, 12, .inr (.inr (.inr (.inr (fun _ => none)))))), (q_2, .inr (3, [.ref q_3, .ref q_4, .ref q_5, .ref q_6])), (q_3, .inl (cI, 10, .inl (fun _ => 0))), (q_4, .inl (cI, 10, .inl (fun _ => 0))), (q_5, .inl (cI, 10, .inl (fun _ => -1))), (q_6, .inr (2, [.int 12, .ref q_7, .ref q_8])), (q_7, .inl (cI, 10, .inl (fun _ => 0))), (q_8, .inl (cI, 120, .inl (fun _ => 0))), (q_10, .inr (1, [.ref q_11, .ref q_12, .int 0])), (q_11, .inl (cI, 144, .inl (fun _ => 0))), (q_12, .inl (cI, 144, .inl (fun _ => 0))), (q_13, .inr (0, [.ref q_14])), (q_14, .inr (2, [.int 300, .ref q_15, .ref q_16])), (q_15, .inl (cI, 1, .inl (fun _ => 0))), (q_16, .inl (cI, 300, .inl (fun _ => 0)))] H := hP
  have hD : va_D A [(h0, .inr (5, [.ref q_1, .int 0, .ref q_2, .ref q_10, .null])), (q_1, .inl (cW, 12, .inr (.inr (.inr (.inr (fun _ => none)))))), (q_2, .inr (3, [.ref q_3, .ref q_4, .ref q_5, .ref q_6])), (q_3, .inl (cI, 10, .inl (fun _ => 0))), (q_4, .inl (cI, 10, .inl (fun _ => 0))), (q_5, .inl (cI, 10, .inl (fun _ => -1))), (q_6, .inr (2, [.int 12, .ref q_7, .ref q_8])), (q_7, .inl (cI, 10, .inl (fun _ => 0))), (q_8, .inl (cI, 120, .inl (fun _ => 0))), (q_10, .inr (1, [.ref q_11, .ref q_12, .int 0])), (q_11, .inl (cI, 144, .inl (fun _ => 0))), (q_12, .inl (cI, 144, .inl (fun _ => 0))), (q_13, .inr (0, [.ref q_14])), (q_14, .inr (2, [.int 300, .ref q_15, .ref q_16])), (q_15, .inl (cI, 1, .inl (fun _ => 0))), (q_16, .inl (cI, 300, .inl (fun _ => 0)))] := hD
  refine va_putF (D := (dC, dI)) (ci := 5) (v := .ref q_13) (ty := .object "LendThreads$Diary") (C := RX5) (T := TX5) (N := 5) hx hb hts iX5_init_X5 tyX5 tyX5_ok nmX5 hown hKw hP hD hS 0 rfl rfl 4 (by decide) (hts (.fieldLink RX5 32 "LendThreads" "diary" "LLendThreads$Diary;") (by decide +kernel)) (fun _ h9 => h9) rfl hin rfl (by decide +kernel) rfl rfl (Nat.le_of_ble_eq_true rfl) dX5_init_43 (fun H locs hP hD hS => ?_)
  have hP : va_P (dC, dI) vwCl [(h0, .inr (5, [.ref q_1, .int 0, .ref q_2, .ref q_10, .ref q_13])), (q_1, .inl (cW, 12, .inr (.inr (.inr (.inr (fun _ => none)))))), (q_2, .inr (3, [.ref q_3, .ref q_4, .ref q_5, .ref q_6])), (q_3, .inl (cI, 10, .inl (fun _ => 0))), (q_4, .inl (cI, 10, .inl (fun _ => 0))), (q_5, .inl (cI, 10, .inl (fun _ => -1))), (q_6, .inr (2, [.int 12, .ref q_7, .ref q_8])), (q_7, .inl (cI, 10, .inl (fun _ => 0))), (q_8, .inl (cI, 120, .inl (fun _ => 0))), (q_10, .inr (1, [.ref q_11, .ref q_12, .int 0])), (q_11, .inl (cI, 144, .inl (fun _ => 0))), (q_12, .inl (cI, 144, .inl (fun _ => 0))), (q_13, .inr (0, [.ref q_14])), (q_14, .inr (2, [.int 300, .ref q_15, .ref q_16])), (q_15, .inl (cI, 1, .inl (fun _ => 0))), (q_16, .inl (cI, 300, .inl (fun _ => 0)))] H := hP
  have hD : va_D A [(h0, .inr (5, [.ref q_1, .int 0, .ref q_2, .ref q_10, .ref q_13])), (q_1, .inl (cW, 12, .inr (.inr (.inr (.inr (fun _ => none)))))), (q_2, .inr (3, [.ref q_3, .ref q_4, .ref q_5, .ref q_6])), (q_3, .inl (cI, 10, .inl (fun _ => 0))), (q_4, .inl (cI, 10, .inl (fun _ => 0))), (q_5, .inl (cI, 10, .inl (fun _ => -1))), (q_6, .inr (2, [.int 12, .ref q_7, .ref q_8])), (q_7, .inl (cI, 10, .inl (fun _ => 0))), (q_8, .inl (cI, 120, .inl (fun _ => 0))), (q_10, .inr (1, [.ref q_11, .ref q_12, .int 0])), (q_11, .inl (cI, 144, .inl (fun _ => 0))), (q_12, .inl (cI, 144, .inl (fun _ => 0))), (q_13, .inr (0, [.ref q_14])), (q_14, .inr (2, [.int 300, .ref q_15, .ref q_16])), (q_15, .inl (cI, 1, .inl (fun _ => 0))), (q_16, .inl (cI, 300, .inl (fun _ => 0)))] := hD
  refine lv_iconst (v := 0) hx hb dX5_init_46 (by decide) ?_
  refine lv_istore_n (lv' := [(1, .int 0), (0, .ref h0)]) hx hb dX5_init_47 rfl hl (by decide) rfl (fun ls hl => ?_)
  refine W.widen (k := 15 + 7 * 0) (n := 775 + 98 * 0) (by omega) (by omega) ?_
  refine lt_loop (h0 := h0) ⟨hx, hb, hml, hown, hts⟩ hKK hKw hA (fun a f H locs ls hP hD hS hf h0a => ?_) 12 0 rfl (fun k => ([h0, q_1, q_2, q_3, q_4, q_5, q_6, q_7, q_8, q_10, q_11, q_12, q_13, q_14, q_15, q_16] : List Nat).getD k 0) (fun _ => none) H locs ls hP hD hS (fun j hj => absurd hj (by omega)) rfl hl
  replace hP := va_pxQ (g := fun i => some (a (16 + 7 * i))) hP (k := 1) rfl (fun j hj => (hf j hj).symm)
  replace hD := hD.set (p := 1) (e := .inl (cW, 12, .inr (.inr (.inr (.inr (fun i => some (a (16 + 7 * i)))))))) rfl
  have hP : va_P (dC, dI) vwCl (bX cI cW a (fun i => some (a (16 + 7 * i))) ++ pool cI a 12) H := hP
  have hD : va_D A (bX cI cW a (fun i => some (a (16 + 7 * i))) ++ pool cI a 12) := hD
  rw [bX_all] at hP hD
  have hI : Inj 100 a := fun i j hi hj e => hD.1 i j _ _ (cwl_get hi) (cwl_get hj) e
  refine W.widen (k := 99) (n := 1963) (by omega) (by omega) ?_
  exact W.vret hx hb hr (fun t ht hW => ⟨⟨(cW, a), rfl, ⟨h0a, hI⟩, ⟨by rw [ht]; exact hP, hD⟩, va_K.moved hW.alike hKw⟩, hS.F ht⟩) hS.2.2 dX5_init_74
