/-! THE CLAIM OUT OF ONE WALK OF THE LAW'S BODY. Your part is whole_start (and what it stands on); all else here is the same for every law, but numbers. -/
def R_law : String := "LendThreadsLaw"
def lw_P (b : Addr) (xs : List Int32) (args : Array Value) (s : State) : Prop := args = #[.ref b] ∧ s.IntsAt b xs ∧ xs.length ≤ 2560 ∧ (Jvm.Cond.and given_1 narrow_1).before args s = true
def lw_Q (_ : Array Value) (s : State) (o : Outcome) (t : State) : Prop := o = .returned (some (.int 1)) ∧ Framed s o t [] 601024 7293034
def lw_Z (below : List Frame) (a : Array Value) (s : State) : State → Prop := fun t => ∃ o, t.status = .running ∧ Ended t below o ∧ lw_Q a s o t
/-- the law's own end, with 1 on the stack, nothing written that was there before, its room as the claim has it -/
theorem lw_ret {p : Program} {l : Launch} {e : Env} {s : State} {m : MethodId} {below : List Frame} {meth : Method} {c : Code} {b : Nat} (hx : p.tables.exec = Jvm.exec) (hb : c.code = code) (hr : meth.sig.returnType = ret) (hlocks : meth.locks = false) {pc : Nat} {H : Heap} {ls : Array Slot} (hdg : decode code pc = .ok (.ireturn, 1)) : W p l e room_1 s m #[Value.ref b] below meth c H [] 601024 7293034 (lw_Z below #[Value.ref b] s) (F0 m pc ls [.int 1]) := by
  intro T hT X
  obtain ⟨fs, hret, hrun, hended, hW, hframe⟩ := X.leave (v := some (.int 1)) (hlocks := hlocks) (fun h => by rw [hr] at h; cases h)
  have hmeth' : T.vm.method? m = some meth := X.method'
  refine ⟨T.setFrames fs, ?_, .returned (some (.int 1)), hrun, hended, rfl, ⟨_, rfl⟩, hW, hframe⟩
  jvm_step X.here [X.here.top, hx, hb, hdg, hmeth', hr, ret, narrow_b1]
  (try refine ⟨rfl, ?_⟩); (try refine ⟨rfl, ?_⟩)
  first | (intro acts; rw [hret _ acts rfl rfl rfl]) | rw [hret _ _ rfl rfl rfl]
  exact Steps.refl _
/-- what holds at the law's entry: the machine, the code, the tables' words (any of lw_tbl by 'hts w (by decide +kernel)'), the script of L ints xs at the cell b, what the Statement gives of the start (any of its parts by flat_of_before) -/
def lw_At (p : Program) (s : State) (m : MethodId) (meth : Method) (c : Code) (b L : Nat) (xs : Nat → Int32) : Prop :=
  p.tables.exec = Jvm.exec ∧ c.code = code ∧ meth.sig.returnType = ret ∧ c.maxLocals = 7 ∧ s.vm.findClass R_law = some m.cls ∧ (∀ w ∈ lw_tbl, w.before #[Value.ref b] s = true) ∧ va_X b L xs s s.heap ∧ b < s.heap.size ∧ meth.locks = false ∧ (Jvm.Cond.and given_1 narrow_1).before #[Value.ref b] s = true
/-- what is fixed while the law runs -/
def LwC (s : State) (dC : Nat → ClassId) (dI : Nat → Nat → Nat) (cI c9 cZ cJ : ClassId) (ad am : Nat → Nat) (o sa : Nat) : Prop :=
  kb dC dI cI s ∧ va_K (dC, dI) vwCl [(cI, .int), (c9, .object RX4)] s ∧ va_K (dC, dI) vwCl [(cI, .int), (cZ, .boolean)] s ∧ va_K (dC, dI) vwCl [(cI, .int), (cJ, .long)] s ∧ cxE s.heap.size sa s s.heap ∧ Inj 100 ad ∧ Inj 24 am ∧ (∀ i j, i < 100 → j < 24 → ad i ≠ am j) ∧ (∀ i, i < 100 → ad i ≠ o) ∧ (∀ j, j < 24 → am j ≠ o) ∧ (∀ i, i < 100 → s.heap.size ≤ ad i) ∧ (∀ j, j < 24 → s.heap.size ≤ am j) ∧ s.heap.size ≤ o
/-- what moves: the two memories, the out array -/
def LwS (s : State) (dC : Nat → ClassId) (dI : Nat → Nat → Nat) (cI c9 cZ cJ : ClassId) (ad am : Nat → Nat) (o : Nat) (M N : Mem) (g : Nat → Int64) (H : Heap) (locs : List Loc) : Prop :=
  va_P (dC, dI) vwCl (cW cI c9 ad M) H ∧ va_P (dC, dI) vwCl (mW cI cZ am N) H ∧ va_P (dC, dI) vwCl [(o, .inl (cJ, 1, .inr (.inl g)))] H ∧ va_S (fun q : Nat => s.heap.size ≤ q) s.heap H locs
section LW
variable {s : State} {dC : Nat → ClassId} {dI : Nat → Nat → Nat} {cI c9 cZ cJ : ClassId} {ad am : Nat → Nat} {o sa : Nat} {M N : Mem} {H H1 : Heap} {A : Nat → Prop} {ws : va_W} {Dg : va_G} {cl0 : List vw_C}
theorem lw_k (hP : va_P Dg cl0 ws H) (hk : ∀ q : Nat, q < H.size → ¬ A q → H1[q]? = H[q]?) (hd : ∀ (k : Nat) (q : Nat × va_E), ws[k]? = some q → ¬ A q.1) : va_P Dg cl0 ws H1 := hP.kept (fun k q hq => hk q.1 (hP k q hq).lt (hd k q hq))
theorem lw_nm (hC : LwC s dC dI cI c9 cZ cJ ad am o sa) {en : Nat → va_E} : ∀ (k : Nat) (q : Nat × va_E), (cwl 24 am en)[k]? = some q → ¬ Ac 100 ad q.1 := by
  intro k q hk h
  obtain ⟨h1, rfl⟩ := cwl_inv hk
  obtain ⟨i, hi, e⟩ := h
  exact hC.2.2.2.2.2.2.2.1 i k hi h1 e.symm
theorem lw_nx (hC : LwC s dC dI cI c9 cZ cJ ad am o sa) {en : Nat → va_E} : ∀ (k : Nat) (q : Nat × va_E), (cwl 100 ad en)[k]? = some q → ¬ Ac 24 am q.1 := by
  intro k q hk h
  obtain ⟨h1, rfl⟩ := cwl_inv hk
  obtain ⟨i, hi, e⟩ := h
  exact hC.2.2.2.2.2.2.2.1 k i h1 hi e
theorem lw_one {a : Nat} {e : va_E} {k : Nat} {q : Nat × va_E} (h : [(a, e)][k]? = some q) : q = (a, e) := by
  have hz : k < 1 := (List.getElem?_eq_some_iff.mp h).1
  rw [show k = 0 by omega] at h
  exact (Option.some.inj h).symm
theorem lw_no (hC : LwC s dC dI cI c9 cZ cJ ad am o sa) {e : va_E} : ∀ (k : Nat) (q : Nat × va_E), [(o, e)][k]? = some q → ¬ Ac 100 ad q.1 := by
  intro k q hk h
  rw [lw_one hk] at h
  obtain ⟨i, hi, e⟩ := h
  exact hC.2.2.2.2.2.2.2.2.1 i hi e.symm
theorem lw_nq (hC : LwC s dC dI cI c9 cZ cJ ad am o sa) {e : va_E} : ∀ (k : Nat) (q : Nat × va_E), [(o, e)][k]? = some q → ¬ Ac 24 am q.1 := by
  intro k q hk h
  rw [lw_one hk] at h
  obtain ⟨i, hi, e⟩ := h
  exact hC.2.2.2.2.2.2.2.2.2.1 i hi e.symm
theorem lw_vP {g : Nat → Int64} (hPx : va_P (dC, dI) vwCl (cW cI c9 ad M) H) (hPo : va_P (dC, dI) vwCl [(o, .inl (cJ, 1, .inr (.inl g)))] H) : va_P (dC, dI) vwCl [(ad 0, .inr (5, [.ref (ad 1), .int (M 0 1), .ref (ad 2), .ref (ad 9), .ref (ad 12)])), (ad 2, .inr (3, [.ref (ad 3), .ref (ad 4), .ref (ad 5), .ref (ad 6)])), (ad 3, .inl (cI, 10, .inl (M 3))), (o, .inl (cJ, 1, .inr (.inl g)))] H := by
  intro k q hk
  match k, hk with
  | 0, hk => cases hk; exact hPx 0 _ cw_lt
  | 1, hk => cases hk; exact hPx 2 _ cw_shelf
  | 2, hk => cases hk; exact hPx 3 _ (cw_arr (k := 3) (by decide) (by decide))
  | 3, hk => cases hk; exact hPo 0 _ rfl
  | k + 4, hk => simp at hk
theorem lw_vD (hC : LwC s dC dI cI c9 cZ cJ ad am o sa) (M : Mem) (g : Nat → Int64) : va_D (fun q : Nat => s.heap.size ≤ q) [(ad 0, .inr (5, [.ref (ad 1), .int (M 0 1), .ref (ad 2), .ref (ad 9), .ref (ad 12)])), (ad 2, .inr (3, [.ref (ad 3), .ref (ad 4), .ref (ad 5), .ref (ad 6)])), (ad 3, .inl (cI, 10, .inl (M 3))), (o, .inl (cJ, 1, .inr (.inl g)))] := by
  obtain ⟨-, -, -, -, -, hI, -, -, hxo, -, hax, -, hao⟩ := hC
  have a02 : ad 0 ≠ ad 2 := fun q => absurd (hI 0 2 (by decide) (by decide) q) (by decide)
  have a03 : ad 0 ≠ ad 3 := fun q => absurd (hI 0 3 (by decide) (by decide) q) (by decide)
  have a23 : ad 2 ≠ ad 3 := fun q => absurd (hI 2 3 (by decide) (by decide) q) (by decide)
  have o0 := hxo 0 (by decide)
  have o2 := hxo 2 (by decide)
  have o3 := hxo 3 (by decide)
  refine ⟨fun i j p q hi hj e => ?_, fun k q hk => ?_⟩
  · have hi4 : i < 4 := (List.getElem?_eq_some_iff.mp hi).1
    have hj4 : j < 4 := (List.getElem?_eq_some_iff.mp hj).1
    rcases (show i = 0 ∨ i = 1 ∨ i = 2 ∨ i = 3 by omega) with rfl | rfl | rfl | rfl <;> rcases (show j = 0 ∨ j = 1 ∨ j = 2 ∨ j = 3 by omega) with rfl | rfl | rfl | rfl <;> first | rfl | (cases hi; cases hj; first | exact absurd e a02 | exact absurd e.symm a02 | exact absurd e a03 | exact absurd e.symm a03 | exact absurd e a23 | exact absurd e.symm a23 | exact absurd e o0 | exact absurd e.symm o0 | exact absurd e o2 | exact absurd e.symm o2 | exact absurd e o3 | exact absurd e.symm o3)
  · match k, hk with
    | 0, hk => cases hk; exact hax 0 (by decide)
    | 1, hk => cases hk; exact hax 2 (by decide)
    | 2, hk => cases hk; exact hax 3 (by decide)
    | 3, hk => cases hk; exact hao
    | k + 4, hk => simp at hk
theorem lw_fA {y : Nat} {e : va_E} {locs : List Loc} (hy : s.heap.size ≤ y) (hS : va_S (fun q : Nat => s.heap.size ≤ q) s.heap H locs) : ∀ q, va_A [(y, e)] H.size q → s.heap.size ≤ q := by
  intro q h
  rcases h with ⟨k, e', h⟩ | h
  · cases lw_one h
    exact hy
  · exact Nat.le_trans hS.1 h
theorem lw_vF (hC : LwC s dC dI cI c9 cZ cJ ad am o sa) (g : Nat → Int64) {locs : List Loc} (hS : va_S (fun q : Nat => s.heap.size ≤ q) s.heap H locs) : ∀ q, va_A [(o, .inl (cJ, 1, .inr (.inl g)))] H.size q → s.heap.size ≤ q := lw_fA hC.2.2.2.2.2.2.2.2.2.2.2.2 hS
theorem lw_nA {y : Nat} {e : va_E} {q : Nat} (hne : q ≠ y) (hlt : q < H.size) : ¬ va_A [(y, e)] H.size q := by
  intro h
  rcases h with ⟨k, e', h⟩ | h
  · cases lw_one h
    exact hne rfl
  · omega
theorem lw_vx (hC : LwC s dC dI cI c9 cZ cJ ad am o sa) (g : Nat → Int64) {en : Nat → va_E} (hP : va_P (dC, dI) vwCl (cwl 100 ad en) H) : ∀ (k : Nat) (q : Nat × va_E), (cwl 100 ad en)[k]? = some q → ¬ va_A [(o, .inl (cJ, 1, .inr (.inl g)))] H.size q.1 := by
  intro k q hk
  have hlt := (hP k q hk).lt
  obtain ⟨h1, rfl⟩ := cwl_inv hk
  exact lw_nA (hC.2.2.2.2.2.2.2.2.1 k h1) hlt
theorem lw_vm (hC : LwC s dC dI cI c9 cZ cJ ad am o sa) (g : Nat → Int64) {en : Nat → va_E} (hP : va_P (dC, dI) vwCl (cwl 24 am en) H) : ∀ (k : Nat) (q : Nat × va_E), (cwl 24 am en)[k]? = some q → ¬ va_A [(o, .inl (cJ, 1, .inr (.inl g)))] H.size q.1 := by
  intro k q hk
  have hlt := (hP k q hk).lt
  obtain ⟨h1, rfl⟩ := cwl_inv hk
  exact lw_nA (hC.2.2.2.2.2.2.2.2.2.1 k h1) hlt
theorem wapL {a b : va_W} (h : va_P Dg cl0 (a ++ b) H) : va_P Dg cl0 a H := h.by (fun k => k) (fun k q hk => by rw [List.getElem?_append_left (List.getElem?_eq_some_iff.mp hk).1]; exact hk)
theorem wapR {a b : va_W} (h : va_P Dg cl0 (a ++ b) H) : va_P Dg cl0 b H := h.by (fun k => a.length + k) (fun k q hk => by rw [List.getElem?_append_right (by omega), show a.length + k - a.length = k by omega]; exact hk)
theorem dapR {a b : va_W} (h : va_D A (a ++ b)) : va_D A b := h.by (fun k => a.length + k) (fun k q hk => by rw [List.getElem?_append_right (by omega), show a.length + k - a.length = k by omega]; exact hk) (fun i j _ _ e => by omega)
theorem dapX {a b : va_W} (h : va_D A (a ++ b)) {i j : Nat} {p q : Nat × va_E} (hi : a[i]? = some p) (hj : b[j]? = some q) : p.1 ≠ q.1 := by
  intro e
  have hl := (List.getElem?_eq_some_iff.mp hi).1
  have := h.1 i (a.length + j) p q (by rw [List.getElem?_append_left hl]; exact hi) (by rw [List.getElem?_append_right (by omega), show a.length + j - a.length = j by omega]; exact hj) e
  omega
end LW
