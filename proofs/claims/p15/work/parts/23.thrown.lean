theorem jX6_thrown_X6 : ∀ w ∈ u_ws RX6 TX6 29, w ∈ wsX6_thrown := by decide +kernel
def F_X6_thrown (M : Mem) : Option (Int32) :=
  some (M 0 0)
set_option maxHeartbeats 4000000 in
set_option maxRecDepth 100000 in
theorem k_X6_thrown (l : Launch) (dC : Nat → ClassId) (dI : Nat → Nat → Nat) (cI cZ : ClassId) (am : Nat → Nat) (hI : Inj 24 am) (M : Mem) (q : Int32) (h : F_X6_thrown M  = some q) : Met l yX6_thrown wsX6_thrown ({ frames := 0, cells := 0, slots := 0, locals := 0 }) (gm dC dI cI cZ am M [.ref (am 0)]) (vp_Si (fun x => x = q)) 0 0 (fun _ => False) := by
  refine Met.ofW (cc := cX6_thrown) (maxL := 1) (ret := (some .int)) (by decide) rfl ?_
  intro p e s m args below meth c s₁ B hml hv
  obtain ⟨rfl, hP, hKK, hKz⟩ := hv
  have hx := B.exec
  have hb := B.bytes
  have hr := B.returns
  have hts := atoms_spec (ws := wsX6_thrown) B.pre
  have hown : s.vm.findClass RX6 = some m.cls := findClass_of_methodNamed B.named
  have hlocks := B.notSynchronized
  have hl := lv_entry ([.ref (am 0)]) (n := 1) (Nat.le_of_ble_eq_true rfl)
  rw [lg_entry_eq]
  generalize (lg_sl ([.ref (am 0)]) ++ List.replicate (1 - (lg_sl ([.ref (am 0)])).length) Slot.unset).toArray = ls at hl ⊢
  have hl : lv_has ls 1 [(0, .ref (am 0))] := hl
  unfold F_X6_thrown at h
  refine lv_aload_n hx hb dX6_thrown_0 rfl (lv_at hl 0 rfl) ?_
  refine va_get (D := (dC, dI)) (ci := 6) (v := .int (M 0 0)) (C := RX6) (T := TX6) (N := 29) hx hb hts jX6_thrown_X6 hown hKz hP 0 mw_0 rfl 0 (by decide) (hts (.fieldLink RX6 80 "LendThreadsModel" "thrown" "I") (by decide +kernel)) (fun _ h9 => h9) rfl dX6_thrown_1 ?_
  replace h := Option.some.inj h
  subst h
  exact W.iret (v := (M 0 0)) hx hb hr (fun t ht hW => ⟨_, rfl, rfl, ht⟩) (fun _ h => by cases h) dX6_thrown_4
