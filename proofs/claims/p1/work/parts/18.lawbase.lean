/-! THE CLAIM OUT OF ONE WALK OF THE LAW'S BODY. Your part is whole_start (and what it stands on); all else here is the same for every law, but numbers. -/
def R_law : String := "LendThreadsLaw"
def lw_P (b : Addr) (xs : List Int32) (args : Array Value) (s : State) : Prop := args = #[.ref b] ∧ s.IntsAt b xs ∧ xs.length ≤ 5 ∧ (Jvm.Cond.and given_1 narrow_1).before args s = true
def lw_Q (_ : Array Value) (s : State) (o : Outcome) (t : State) : Prop := o = .returned (some (.int 1)) ∧ Framed s o t [] 600002 7302232
def lw_Z (below : List Frame) (a : Array Value) (s : State) : State → Prop := fun t => ∃ o, t.status = .running ∧ Ended t below o ∧ lw_Q a s o t
/-- the law's own end, with 1 on the stack, nothing written that was there before, its room as the claim has it -/
theorem lw_ret {p : Program} {l : Launch} {e : Env} {s : State} {m : MethodId} {below : List Frame} {meth : Method} {c : Code} {b : Nat} (hx : p.tables.exec = Jvm.exec) (hb : c.code = code) (hr : meth.sig.returnType = ret) (hlocks : meth.locks = false) {pc : Nat} {H : Heap} {ls : Array Slot} (hdg : decode code pc = .ok (.ireturn, 1)) : W p l e room_1 s m #[Value.ref b] below meth c H [] 600002 7302232 (lw_Z below #[Value.ref b] s) (F0 m pc ls [.int 1]) := by
  intro T hT X
  obtain ⟨fs, hret, hrun, hended, hW, hframe⟩ := X.leave (v := some (.int 1)) (hlocks := hlocks) (fun h => by rw [hr] at h; cases h)
  have hmeth' : T.vm.method? m = some meth := X.method'
  refine ⟨T.setFrames fs, ?_, .returned (some (.int 1)), hrun, hended, rfl, ⟨_, rfl⟩, hW, hframe⟩
  jvm_step X.here [X.here.top, hx, hb, hdg, hmeth', hr, ret, narrow_b1]
  (try refine ⟨rfl, ?_⟩); (try refine ⟨rfl, ?_⟩)
  first | (intro acts; rw [hret _ acts rfl rfl rfl]) | rw [hret _ _ rfl rfl rfl]
  exact Steps.refl _
/-- what holds at the law's entry: the machine, the code, the tables' words (any of lw_tbl by 'hts w (by decide +kernel)'), the script of L ints xs at the cell b, what the Statement gives of the start (any of its parts by flat_of_before) -/
def lw_At (p : Program) (s : State) (m : MethodId) (meth : Method) (c : Code) (b L : Nat) (xs : Nat → Int32) : Prop :=
  p.tables.exec = Jvm.exec ∧ c.code = code ∧ meth.sig.returnType = ret ∧ c.maxLocals = 7 ∧ s.vm.findClass R_law = some m.cls ∧ (∀ w ∈ lw_tbl, w.before #[Value.ref b] s = true) ∧ va_X b L xs s s.heap ∧ b < s.heap.size ∧ meth.locks = false ∧ (Jvm.Cond.and given_1 narrow_1).before #[Value.ref b] s = true
theorem bw_eq {r r2 a b : Int32} (h : (r = -2 ∧ (a < 1 ∨ 10 < a ∨ b < -1 ∨ a ≤ b)) ∨ (r = 0 ∧ ¬ a < 1 ∧ ¬ 10 < a ∧ ¬ b < -1 ∧ ¬ a ≤ b)) (h2 : (r2 = -2 ∧ (a < 1 ∨ 10 < a ∨ b < -1 ∨ a ≤ b)) ∨ (r2 = 0 ∧ ¬ a < 1 ∧ ¬ 10 < a ∧ ¬ b < -1 ∧ ¬ a ≤ b)) : r = r2 := by
  rcases h with ⟨e, h⟩ | ⟨e, h⟩ <;> rcases h2 with ⟨e2, h2⟩ | ⟨e2, h2⟩
  · rw [e, e2]
  · rcases h with h | h | h | h
    · exact absurd h h2.1
    · exact absurd h h2.2.1
    · exact absurd h h2.2.2.1
    · exact absurd h h2.2.2.2
  · rcases h2 with h2 | h2 | h2 | h2
    · exact absurd h2 h.1
    · exact absurd h2 h.2.1
    · exact absurd h2 h.2.2.1
    · exact absurd h2 h.2.2.2
  · rw [e, e2]
theorem bl_eq {r r2 v : Int32} (h : (r = 1 ∧ ¬ v < 0 ∧ ¬ 100 < v) ∨ (r = -2 ∧ (v < 0 ∨ 100 < v))) (h2 : (r2 = 1 ∧ ¬ v < 0 ∧ ¬ 100 < v) ∨ (r2 = -2 ∧ (v < 0 ∨ 100 < v))) : r = r2 := by
  rcases h with ⟨e, h⟩ | ⟨e, h⟩ <;> rcases h2 with ⟨e2, h2⟩ | ⟨e2, h2⟩
  · rw [e, e2]
  · rcases h2 with h2 | h2
    · exact absurd h2 h.1
    · exact absurd h2 h.2
  · rcases h with h | h
    · exact absurd h h2.1
    · exact absurd h h2.2
  · rw [e, e2]
theorem bv_eq {k th r v : Int32} {u : Nat → Int64} (h : (k = 0 ∧ (¬ v < 0 ∧ ¬ 10 ≤ v) ∧ u 0 = (0 : Int32).toInt64) ∨ (k = 1 ∧ (v < 0 ∨ 10 ≤ v))) (h2 : (th = 0 ∧ (¬ v < 0 ∧ ¬ 9 < v) ∧ r = 0) ∨ (th = 1 ∧ (v < 0 ∨ 9 < v))) : (k = 0 ∧ th = 0 ∧ r = 0 ∧ u 0 = (0 : Int32).toInt64) ∨ (k = 1 ∧ th = 1) := by
  have key : 9 < v ↔ 10 ≤ v := by
    rw [Int32.lt_iff_toInt_lt, Int32.le_iff_toInt_le]
    have e9 : (9 : Int32).toInt = 9 := by decide
    have e10 : (10 : Int32).toInt = 10 := by decide
    omega
  rcases h with ⟨e, h, z⟩ | ⟨e, h⟩ <;> rcases h2 with ⟨e2, h2, z2⟩ | ⟨e2, h2⟩
  · exact Or.inl ⟨e, e2, z2, z⟩
  · rcases h2 with h2 | h2
    · exact absurd h2 h.1
    · exact absurd (key.mp h2) h.2
  · rcases h with h | h
    · exact absurd h h2.1
    · exact absurd (key.mpr h) h2.2
  · exact Or.inr ⟨e, e2⟩
set_option maxHeartbeats 4000000 in
set_option maxRecDepth 100000 in
theorem law_end {p : Program} {l : Launch} {e : Env} {s : State} {m : MethodId} {below : List Frame} {meth : Method} {c : Code} {b L : Nat} {xs : Nat → Int32} (C0 : lw_At p s m meth c b L xs) (hL : L = 5) (H : Heap) (locs : List Loc) (hS : va_S (fun q : Nat => s.heap.size ≤ q) s.heap H locs) (ls : Array Slot) (hl : lv_has ls 7 [(4, .int 0), (0, .ref b)]) {k n : Nat} (hk : k ≤ 600002) (hn : n ≤ 7302232) : W p l e room_1 s m #[Value.ref b] below meth c H locs k n (lw_Z below #[Value.ref b] s) (F0 m 635 ls []) := by
  obtain ⟨hx, hb, hr, hml, hown, hts0, hX, hbl, hlocks, hgv⟩ := id C0
  have hts : ∀ w ∈ wsL_law, w.before #[Value.ref b] s = true := fun w h => hts0 w (wsL_law_in w h)
  have hA : ∀ q : Nat, s.heap.size ≤ q → (fun q : Nat => s.heap.size ≤ q) q := fun _ h => h
  have hbA : ¬ (fun q : Nat => s.heap.size ≤ q) b := Nat.not_le.mpr hbl
  refine lv_iinc (v := 5) (lv' := [(4, .int 5), (0, .ref b)]) hx hb dL_law_635 hl (k := 0) rfl (by decide) (by decide) rfl (fun ls hl => ?_)
  refine lv_goto (tgt := 23) hx hb dL_law_638 (by decide) ?_
  refine lv_iload hx hb dL_law_23 (lv_at hl 0 rfl) ?_
  refine lv_aload_n hx hb dL_law_25 rfl (lv_at hl 1 rfl) ?_
  refine va_slen hx hb hX hbl hbA hS dL_law_26 ?_
  refine lv_iconst (v := 5) hx hb dL_law_27 (by decide) ?_
  refine lv_isub hx hb dL_law_28 ?_
  refine lv_icmp_gt (tgt := 641) hx hb dL_law_29 (by decide) (fun c_1 => ?_) (fun c_1 => ?_)
  · refine lv_iconst (v := 1) hx hb dL_law_641 (by decide) ?_
    refine va_forget (fun q hq => hS.2.2 q hq) ?_
    refine W.widen (k := 600002) (n := 7302232) hk hn ?_
    exact lw_ret hx hb hr hlocks dL_law_642
  · rw [hL] at c_1
    exact absurd c_1 (by decide)
