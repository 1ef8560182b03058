theorem bm_e {β : Type} {M : Mem} {f : Mem → β} {y : β} (h : bm M f = y) : f M = y := h
/-- a cell that holds Rows -/
def rok (r : Nat) : Prop := r + 2 < 100 ∧ kd r = 4 ∧ kd (r + 1) = 3 ∧ kd (r + 2) = 3
theorem rok.lt {r : Nat} (h : rok r) : r < 100 := by have := h.1; omega
theorem rok.lt1 {r : Nat} (h : rok r) : r + 1 < 100 := by have := h.1; omega
theorem rok.lt2 {r : Nat} (h : rok r) : r + 2 < 100 := h.1
theorem rok.k0 {r : Nat} (h : rok r) : kd r = 4 := h.2.1
theorem rok.k1 {r : Nat} (h : rok r) : kd (r + 1) = 3 := h.2.2.1
theorem rok.k2 {r : Nat} (h : rok r) : kd (r + 2) = 3 := h.2.2.2
theorem rok_6 : rok 6 := ⟨by decide, by decide, by decide, by decide⟩
theorem rok_13 : rok 13 := ⟨by decide, by decide, by decide, by decide⟩
/-- a cell that holds a Work -/
def wok (w : Nat) : Prop := ∃ i, i < 12 ∧ w = 16 + 7 * i
theorem wok.of {i : Nat} (h : i < 12) : wok (16 + 7 * i) := ⟨i, h, rfl⟩
theorem wok.lt {w : Nat} (h : wok w) : w < 100 := by obtain ⟨i, h1, rfl⟩ := h; omega
theorem kd_w : ∀ i, i < 12 → kd (16 + 7 * i) = 7 ∧ kd (16 + 7 * i + 1) = 4 ∧ kd (16 + 7 * i + 1 + 1) = 3 ∧ kd (16 + 7 * i + 1 + 2) = 3 ∧ kd (16 + 7 * i + 4) = 4 ∧ kd (16 + 7 * i + 4 + 1) = 3 ∧ kd (16 + 7 * i + 4 + 2) = 3 := by decide
theorem ln_w : ∀ i, i < 12 → ln (16 + 7 * i + 1 + 1) = 10 ∧ ln (16 + 7 * i + 1 + 2) = 40 ∧ ln (16 + 7 * i + 4 + 1) = 10 ∧ ln (16 + 7 * i + 4 + 2) = 20 := by decide
theorem wok.k {w : Nat} (h : wok w) : kd w = 7 := by obtain ⟨i, h1, rfl⟩ := h; exact (kd_w i h1).1
theorem wok.r1 {w : Nat} (h : wok w) : rok (w + 1) := by
  obtain ⟨i, h1, rfl⟩ := h
  obtain ⟨-, a, b, c, -⟩ := kd_w i h1
  exact ⟨by omega, a, b, c⟩
theorem wok.r4 {w : Nat} (h : wok w) : rok (w + 4) := by
  obtain ⟨i, h1, rfl⟩ := h
  obtain ⟨-, -, -, -, a, b, c⟩ := kd_w i h1
  exact ⟨by omega, a, b, c⟩
/-- every method's start: its values, the class's world -/
def gP (dC : Nat → ClassId) (dI : Nat → Nat → Nat) (cI c9 : ClassId) (ad : Nat → Nat) (M : Mem) (av : List Value) : Array Value → State → Prop := va_Pc av (fun U => va_P (dC, dI) vwCl (cW cI c9 ad M) U.heap ∧ kb dC dI cI U ∧ va_K (dC, dI) vwCl [(cI, .int), (c9, .object RX4)] U)
section GP
variable {dC : Nat → ClassId} {dI : Nat → Nat → Nat} {cI c9 : ClassId} {ad : Nat → Nat} {M : Mem} {av : List Value} {s : State} {H : Heap} {b : Addr} {C : String}
theorem gP_blind : FrameBlind (gP dC dI cI c9 ad M av) := fun a U g mk q => ⟨q.1, q.2.1, kb.calling q.2.2.1, va_K.moved (u := U) (U := U.calling g mk a) (Vm.Alike.refl U.vm) q.2.2.2⟩
theorem gP_preS (hK : kb dC dI cI s) (hKw : va_K (dC, dI) vwCl [(cI, .int), (c9, .object RX4)] s) (hP : va_P (dC, dI) vwCl (cW cI c9 ad M) H) : PreS s H (gP dC dI cI c9 ad M av) av := ⟨gP_blind, fun U hU hW => ⟨rfl, by rw [hU]; exact hP, hK.warm hW, va_K.moved hW.alike hKw⟩⟩
theorem gP_preV (hK : kb dC dI cI s) (hKw : va_K (dC, dI) vwCl [(cI, .int), (c9, .object RX4)] s) (hP : va_P (dC, dI) vwCl (cW cI c9 ad M) H) (hr : ∃ cellB : Cell, H[b]? = some cellB ∧ cellB.vm.isStatics = false ∧ s.vm.findClass C = some cellB.cls) : PreV s H C b (gP dC dI cI c9 ad M (.ref b :: av)) av := ⟨gP_blind, hr, fun U hU hW => ⟨rfl, by rw [hU]; exact hP, hK.warm hW, va_K.moved hW.alike hKw⟩⟩
end GP
theorem sw_out {x : Int32} (h0 : ¬ x = 0) (h1 : ¬ x = 1) (h2 : ¬ x = 2) (h3 : ¬ x = 3) (h4 : ¬ x = 4) : x.toInt < 0 ∨ 4 < x.toInt := by
  have e : ∀ y : Int32, ¬ x = y → ¬ x.toInt = y.toInt := fun y h q => h (Int32.toInt_inj.mp q)
  have a0 := e 0 h0
  have a1 := e 1 h1
  have a2 := e 2 h2
  have a3 := e 3 h3
  have a4 := e 4 h4
  have e0 : (0 : Int32).toInt = 0 := by decide
  have e1 : (1 : Int32).toInt = 1 := by decide
  have e2 : (2 : Int32).toInt = 2 := by decide
  have e3 : (3 : Int32).toInt = 3 := by decide
  have e4 : (4 : Int32).toInt = 4 := by decide
  omega
