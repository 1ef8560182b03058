/-- the nest's own members, as LendThreads names them -/
def nwL : List Cond := [.fieldLinkNest RX5 103 RX4 "state" "I" RX5, .fieldLinkNest RX5 106 RX4 "latest" "I" RX5, .fieldLinkNest RX5 112 RX4 "begunAgain" "I" RX5, .fieldLinkNest RX5 115 RX4 "step" "I" RX5, .fieldLinkNest RX5 118 RX4 "got" "I" RX5, .fieldLinkNest RX5 124 RX4 "askedFor" "I" RX5, .fieldLinkNest RX5 127 RX3 "holders" "[I" RX5, .fieldLinkNest RX5 131 RX3 "lines" "LLendThreads$Rows;" RX5, .fieldLinkNest RX5 144 RX3 "values" "[I" RX5, .fieldLinkNest RX5 147 RX0 "lines" "LLendThreads$Rows;" RX5, .fieldLinkNest RX5 43 RX4 "steps" "I" RX5, .fieldLinkNest RX5 46 RX4 "failsAt" "I" RX5, .fieldLinkNest RX5 49 RX4 "number" "I" RX5, .fieldLinkNest RX5 67 RX4 "hadTurn" "Z" RX5, .fieldLinkNest RX5 71 RX4 "wanted" "LLendThreads$Rows;" RX5, .fieldLinkNest RX5 81 RX4 "receivers" "LLendThreads$Rows;" RX5, .fieldLinkNest RX5 84 RX1 "toLose" "I" RX5, .methodLinkNest RX5 24 yX1_init RX5, .methodLinkNest RX5 31 yX0_init RX5]
def nw (U : State) : Prop := ∀ w ∈ nwL, va_Nw w U
theorem nwL_tab : ∀ w ∈ nwL, w.onTables = true := by decide +kernel
theorem nw_warm {s U : State} (hW : s.WarmedH U.vm) (h : nw s) : nw U := by
  intro w hw
  have h1 := h w hw
  unfold nwL at hw
  repeat (rcases List.mem_cons.mp hw with rfl | hw; · first | exact va_Nw.warmF hW h1 | exact va_Nw.warmM hW h1)
  cases hw
theorem nw_same {u U : State} (e : u.vm = U.vm) (h : nw u) : nw U := fun w hw => va_Nw.same (nwL_tab w hw) e (h w hw)
theorem nw_of {A : Array Value} {U : State} (h : ∀ w ∈ nwL, w.before A U = true) : nw U := fun w hw => va_Nw.of (nwL_tab w hw) (h w hw)
/-- what every method takes as known of the tables -/
def kb (dC : Nat → ClassId) (dI : Nat → Nat → Nat) (cI : ClassId) (U : State) : Prop := va_K (dC, dI) vwCl [(cI, .int)] U ∧ U.vm.findClass "[I" = some cI ∧ nw U
theorem kb.warm {dC : Nat → ClassId} {dI : Nat → Nat → Nat} {cI : ClassId} {s U : State} (hW : s.WarmedH U.vm) (h : kb dC dI cI s) : kb dC dI cI U := ⟨va_K.moved hW.alike h.1, by rw [hW.alike.findClass]; exact h.2.1, nw_warm hW h.2.2⟩
theorem kb.calling {dC : Nat → ClassId} {dI : Nat → Nat → Nat} {cI : ClassId} {U : State} {g : JFrame} {mk : MethodId} {a : Array Value} (h : kb dC dI cI U) : kb dC dI cI (U.calling g mk a) := ⟨va_K.moved (u := U) (U := U.calling g mk a) (Vm.Alike.refl U.vm) h.1, h.2.1, nw_same (u := U) (U := U.calling g mk a) rfl h.2.2⟩
/-- the start of a method that only reads: its values, and the cells that it reads -/
def rP (dC : Nat → ClassId) (dI : Nat → Nat → Nat) (cI : ClassId) (av : List Value) (ws : va_W) : Array Value → State → Prop := va_Pc av (fun U => va_P (dC, dI) vwCl ws U.heap ∧ kb dC dI cI U)
theorem rP_blind {dC : Nat → ClassId} {dI : Nat → Nat → Nat} {cI : ClassId} {av : List Value} {ws : va_W} : FrameBlind (rP dC dI cI av ws) := fun a U g mk q => ⟨q.1, q.2.1, kb.calling q.2.2⟩
theorem rP_preS {dC : Nat → ClassId} {dI : Nat → Nat → Nat} {cI : ClassId} {av : List Value} {ws : va_W} {s : State} {H : Heap} (hK : kb dC dI cI s) (hP : va_P (dC, dI) vwCl ws H) : PreS s H (rP dC dI cI av ws) av := ⟨rP_blind, fun U hU hW => ⟨rfl, by rw [hU]; exact hP, hK.warm hW⟩⟩
theorem rP_preV {dC : Nat → ClassId} {dI : Nat → Nat → Nat} {cI : ClassId} {av : List Value} {ws : va_W} {s : State} {H : Heap} {b : Addr} {C : String} (hK : kb dC dI cI s) (hP : va_P (dC, dI) vwCl ws H) (hr : ∃ cellB : Cell, H[b]? = some cellB ∧ cellB.vm.isStatics = false ∧ s.vm.findClass C = some cellB.cls) : PreV s H C b (rP dC dI cI (.ref b :: av) ws) av := ⟨rP_blind, hr, fun U hU hW => ⟨rfl, by rw [hU]; exact hP, hK.warm hW⟩⟩
/-- the start of a method that writes: its cells are apart -/
def uP (dC : Nat → ClassId) (dI : Nat → Nat → Nat) (cI : ClassId) (av : List Value) (ws : va_W) (sz : Nat) : Array Value → State → Prop := va_Pc av (fun U => U.heap.size = sz ∧ va_P (dC, dI) vwCl ws U.heap ∧ kb dC dI cI U ∧ va_D (fun _ => True) ws)
theorem uP_blind {dC : Nat → ClassId} {dI : Nat → Nat → Nat} {cI : ClassId} {av : List Value} {ws : va_W} {sz : Nat} : FrameBlind (uP dC dI cI av ws sz) := fun a U g mk q => ⟨q.1, q.2.1, q.2.2.1, kb.calling q.2.2.2.1, q.2.2.2.2⟩
theorem uP_preS {dC : Nat → ClassId} {dI : Nat → Nat → Nat} {cI : ClassId} {av : List Value} {ws : va_W} {s : State} {H : Heap} {A : Nat → Prop} (hK : kb dC dI cI s) (hP : va_P (dC, dI) vwCl ws H) (hD : va_D A ws) : PreS s H (uP dC dI cI av ws H.size) av := ⟨uP_blind, fun U hU hW => ⟨rfl, by rw [hU], by rw [hU]; exact hP, hK.warm hW, hD.weaken (fun _ _ _ _ => trivial)⟩⟩
theorem uP_preV {dC : Nat → ClassId} {dI : Nat → Nat → Nat} {cI : ClassId} {av : List Value} {ws : va_W} {s : State} {H : Heap} {A : Nat → Prop} {b : Addr} {C : String} (hK : kb dC dI cI s) (hP : va_P (dC, dI) vwCl ws H) (hD : va_D A ws) (hr : ∃ cellB : Cell, H[b]? = some cellB ∧ cellB.vm.isStatics = false ∧ s.vm.findClass C = some cellB.cls) : PreV s H C b (uP dC dI cI (.ref b :: av) ws H.size) av := ⟨uP_blind, hr, fun U hU hW => ⟨rfl, by rw [hU], by rw [hU]; exact hP, hK.warm hW, hD.weaken (fun _ _ _ _ => trivial)⟩⟩
/-- the world behind a method that writes -/
def uB (dC : Nat → ClassId) (dI : Nat → Nat → Nat) (A : Nat → Prop) (ws : va_W) (t : State) : Prop := va_P (dC, dI) vwCl ws t.heap ∧ va_D A ws
section BN
variable {p : Program} {l : Launch} {e : Env} {R : Room} {s : State} {m : MethodId} {args : Array Value} {below : List Frame} {meth : Method} {c : Code} {H : Heap} {locs : List Loc} {cells slots : Nat} {Q : State → Prop}
variable {cc : ByteArray} {pc : Nat} {ls : Array Slot} {rest : List Value} {A : Nat → Prop} {ws : va_W} {H0 : Heap} {dC : Nat → ClassId} {dI : Nat → Nat → Nat} {cI : ClassId}
/-- a new array of ints, its class the one that is known -/
theorem bn_newI (hexec : p.tables.exec = Jvm.exec) (hb : c.code = cc) (harr : (Cond.arrayClass .int).before args s = true) (hK : kb dC dI cI s) (hP : va_P (dC, dI) vwCl ws H) (hD : va_D A ws) (hS : va_S A H0 H locs) (hA : ∀ q, H0.size ≤ q → A q)
    {n : Int32} {N' : Nat} (hn : ¬ n < 0) (hN : n.toNatClampNeg = N') (hbytes : N' * 4 ≤ 536870912) (hcells : cells + 1 ≤ R.cells) (hslots : slots + N' ≤ R.slots) (hdg : decode cc pc = .ok (.newarray .int, 2))
    (kk : ∀ (q : Nat) (H1 : Heap), va_P (dC, dI) vwCl (ws ++ [(q, .inl (cI, N', .inl (fun _ => 0)))]) H1 → va_D A (ws ++ [(q, .inl (cI, N', .inl (fun _ => 0)))]) → va_S A H0 H1 locs →
      W p l e R s m args below meth c H1 locs (cells + 1) (slots + N') Q (F0 m (pc + 2) ls (.ref q :: rest))) : W p l e R s m args below meth c H locs cells slots Q (F0 m pc ls (.int n :: rest)) := by
  refine va_newaK (atype := .int) hexec hb harr rfl hdg rfl hn hN hbytes hcells hslots rfl fun H1 cA e1 z1 o1 hAr hNm => ?_
  have hc : cA = cI := Option.some.inj (hNm.symm.trans hK.2.1)
  subst hc
  have hk : ∀ (k : Nat) (x : Nat × va_E), ws[k]? = some x → H1[x.1]? = H[x.1]? := fun k x hx => o1 x.1 ((hP k x hx).lt)
  refine kk H.size H1 ((hP.kept hk).app (fun k x hx => ?_)) (hD.push hP rfl (hA _ hS.1)) ⟨Nat.le_trans hS.1 (by omega), fun x h1 h2 => (o1 x (Nat.lt_of_lt_of_le h1 hS.1)).trans (hS.2.1 x h1 h2), hS.2.2⟩
  have hz : k < 1 := (List.getElem?_eq_some_iff.mp hx).1
  rw [show k = 0 by omega] at hx
  cases hx
  exact e1
end BN
/-- the places of a first part of a world, and of the rest -/
theorem bn_pre {a b : va_W} : (List.range a.length).map (fun i => (a ++ b)[i]?) = a.map some := by
  apply List.ext_getElem?
  intro i
  by_cases h : i < a.length
  · simp [h, List.getElem?_append_left h]
  · simp [h]
