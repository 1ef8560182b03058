/-! the reference's cells: 0 the object, then its rows in the order of its fields -/
def lm (k : Nat) : Nat := [0, 12, 12, 12, 12, 12, 12, 12, 12, 12, 12, 12, 120, 480, 120, 240, 10, 10, 144, 144, 1200, 1200, 1200, 300].getD k 0
def encM (cI cZ : ClassId) (am : Nat → Nat) (N : Mem) (k : Nat) : va_E :=
  if k = 0 then .inr (6, [.int (N 0 0), .int (N 0 1), .ref (am 1), .ref (am 2), .ref (am 3), .ref (am 4), .ref (am 5), .ref (am 6), .ref (am 7), .ref (am 8), .ref (am 9), .ref (am 10), .ref (am 11), .int (N 0 13), .ref (am 12), .ref (am 13), .ref (am 14), .ref (am 15), .ref (am 16), .ref (am 17), .ref (am 18), .ref (am 19), .int (N 0 22), .int (N 0 23), .ref (am 20), .ref (am 21), .ref (am 22), .int (N 0 27), .ref (am 23)])
  else if k = 7 then .inl (cZ, lm k, .inl (N k))
  else .inl (cI, lm k, .inl (N k))
abbrev mW (cI cZ : ClassId) (am : Nat → Nat) (N : Mem) : va_W := cwl 24 am (encM cI cZ am N)
section MWG
variable {cI cZ : ClassId} {am : Nat → Nat} {N : Mem} {k j : Nat} {v : Int32}
theorem mw_0 : (mW cI cZ am N)[0]? = some (am 0, .inr (6, [.int (N 0 0), .int (N 0 1), .ref (am 1), .ref (am 2), .ref (am 3), .ref (am 4), .ref (am 5), .ref (am 6), .ref (am 7), .ref (am 8), .ref (am 9), .ref (am 10), .ref (am 11), .int (N 0 13), .ref (am 12), .ref (am 13), .ref (am 14), .ref (am 15), .ref (am 16), .ref (am 17), .ref (am 18), .ref (am 19), .int (N 0 22), .int (N 0 23), .ref (am 20), .ref (am 21), .ref (am 22), .int (N 0 27), .ref (am 23)])) := by
  rw [cwl_get (by decide)]; simp [encM]
theorem mw_z : (mW cI cZ am N)[7]? = some (am 7, .inl (cZ, lm 7, .inl (N 7))) := by
  rw [cwl_get (by decide)]; simp [encM]
theorem mw_arr (hk : k < 24) (h0 : k ≠ 0) (h7 : k ≠ 7) : (mW cI cZ am N)[k]? = some (am k, .inl (cI, lm k, .inl (N k))) := by
  rw [cwl_get hk]; simp [encM, h0, h7]
theorem em_ob {e : va_E} {g : Nat → Int32} (h : encM cI cZ am (va_up N k g) k = e) (h2 : ∀ a, ¬ a = k → encM cI cZ am (va_up N k g) a = encM cI cZ am N a) : va_up (encM cI cZ am N) k e = encM cI cZ am (va_up N k g) := by
  funext a
  by_cases ha : a = k
  · subst ha; rw [va_up_self, h]
  · rw [va_up_ne _ _ ha, h2 a ha]
theorem em_o2 {g : Nat → Int32} : ∀ a, ¬ a = k → k ≠ 0 → encM cI cZ am (va_up N k g) a = encM cI cZ am N a := by
  intro a ha hk
  simp only [encM, va_up_ne _ _ ha, va_up_ne _ _ (fun q : 0 = k => hk q.symm)]
theorem em_o0 {g : Nat → Int32} : ∀ a, ¬ a = 0 → encM cI cZ am (va_up N 0 g) a = encM cI cZ am N a := by
  intro a ha
  simp only [encM, va_up_ne _ _ ha, if_neg ha]
theorem em_arr (h0 : k ≠ 0) (h7 : k ≠ 7) : va_up (encM cI cZ am N) k (.inl (cI, lm k, .inl (upd (N k) j v))) = encM cI cZ am (up2 N k j v) := em_ob (by simp [encM, h0, h7, va_up]) (fun a ha => em_o2 a ha h0)
theorem em_z : va_up (encM cI cZ am N) 7 (.inl (cZ, lm 7, .inl (upd (N 7) j v))) = encM cI cZ am (up2 N 7 j v) := em_ob (by simp [encM, va_up]) (fun a ha => em_o2 a ha (by decide))
theorem em_thrown : va_up (encM cI cZ am N) 0 (.inr (6, [.int v, .int (N 0 1), .ref (am 1), .ref (am 2), .ref (am 3), .ref (am 4), .ref (am 5), .ref (am 6), .ref (am 7), .ref (am 8), .ref (am 9), .ref (am 10), .ref (am 11), .int (N 0 13), .ref (am 12), .ref (am 13), .ref (am 14), .ref (am 15), .ref (am 16), .ref (am 17), .ref (am 18), .ref (am 19), .int (N 0 22), .int (N 0 23), .ref (am 20), .ref (am 21), .ref (am 22), .int (N 0 27), .ref (am 23)])) = encM cI cZ am (up2 N 0 0 v) := em_ob (by simp [encM, va_up, upd]) em_o0
theorem em_works : va_up (encM cI cZ am N) 0 (.inr (6, [.int (N 0 0), .int v, .ref (am 1), .ref (am 2), .ref (am 3), .ref (am 4), .ref (am 5), .ref (am 6), .ref (am 7), .ref (am 8), .ref (am 9), .ref (am 10), .ref (am 11), .int (N 0 13), .ref (am 12), .ref (am 13), .ref (am 14), .ref (am 15), .ref (am 16), .ref (am 17), .ref (am 18), .ref (am 19), .int (N 0 22), .int (N 0 23), .ref (am 20), .ref (am 21), .ref (am 22), .int (N 0 27), .ref (am 23)])) = encM cI cZ am (up2 N 0 1 v) := em_ob (by simp [encM, va_up, upd]) em_o0
theorem em_clock : va_up (encM cI cZ am N) 0 (.inr (6, [.int (N 0 0), .int (N 0 1), .ref (am 1), .ref (am 2), .ref (am 3), .ref (am 4), .ref (am 5), .ref (am 6), .ref (am 7), .ref (am 8), .ref (am 9), .ref (am 10), .ref (am 11), .int v, .ref (am 12), .ref (am 13), .ref (am 14), .ref (am 15), .ref (am 16), .ref (am 17), .ref (am 18), .ref (am 19), .int (N 0 22), .int (N 0 23), .ref (am 20), .ref (am 21), .ref (am 22), .int (N 0 27), .ref (am 23)])) = encM cI cZ am (up2 N 0 13 v) := em_ob (by simp [encM, va_up, upd]) em_o0
theorem em_losing : va_up (encM cI cZ am N) 0 (.inr (6, [.int (N 0 0), .int (N 0 1), .ref (am 1), .ref (am 2), .ref (am 3), .ref (am 4), .ref (am 5), .ref (am 6), .ref (am 7), .ref (am 8), .ref (am 9), .ref (am 10), .ref (am 11), .int (N 0 13), .ref (am 12), .ref (am 13), .ref (am 14), .ref (am 15), .ref (am 16), .ref (am 17), .ref (am 18), .ref (am 19), .int v, .int (N 0 23), .ref (am 20), .ref (am 21), .ref (am 22), .int (N 0 27), .ref (am 23)])) = encM cI cZ am (up2 N 0 22 v) := em_ob (by simp [encM, va_up, upd]) em_o0
theorem em_changes : va_up (encM cI cZ am N) 0 (.inr (6, [.int (N 0 0), .int (N 0 1), .ref (am 1), .ref (am 2), .ref (am 3), .ref (am 4), .ref (am 5), .ref (am 6), .ref (am 7), .ref (am 8), .ref (am 9), .ref (am 10), .ref (am 11), .int (N 0 13), .ref (am 12), .ref (am 13), .ref (am 14), .ref (am 15), .ref (am 16), .ref (am 17), .ref (am 18), .ref (am 19), .int (N 0 22), .int v, .ref (am 20), .ref (am 21), .ref (am 22), .int (N 0 27), .ref (am 23)])) = encM cI cZ am (up2 N 0 23 v) := em_ob (by simp [encM, va_up, upd]) em_o0
theorem em_logged : va_up (encM cI cZ am N) 0 (.inr (6, [.int (N 0 0), .int (N 0 1), .ref (am 1), .ref (am 2), .ref (am 3), .ref (am 4), .ref (am 5), .ref (am 6), .ref (am 7), .ref (am 8), .ref (am 9), .ref (am 10), .ref (am 11), .int (N 0 13), .ref (am 12), .ref (am 13), .ref (am 14), .ref (am 15), .ref (am 16), .ref (am 17), .ref (am 18), .ref (am 19), .int (N 0 22), .int (N 0 23), .ref (am 20), .ref (am 21), .ref (am 22), .int v, .ref (am 23)])) = encM cI cZ am (up2 N 0 27 v) := em_ob (by simp [encM, va_up, upd]) em_o0
end MWG
/-- every method's start: its values, the reference's world -/
def gm (dC : Nat → ClassId) (dI : Nat → Nat → Nat) (cI cZ : ClassId) (am : Nat → Nat) (M : Mem) (av : List Value) : Array Value → State → Prop := va_Pc av (fun U => va_P (dC, dI) vwCl (mW cI cZ am M) U.heap ∧ kb dC dI cI U ∧ va_K (dC, dI) vwCl [(cI, .int), (cZ, .boolean)] U)
section GM
variable {dC : Nat → ClassId} {dI : Nat → Nat → Nat} {cI cZ : ClassId} {am : Nat → Nat} {M : Mem} {av : List Value} {s : State} {H : Heap} {b : Addr} {C : String}
theorem gm_blind : FrameBlind (gm dC dI cI cZ am M av) := fun a U g mk q => ⟨q.1, q.2.1, kb.calling q.2.2.1, va_K.moved (u := U) (U := U.calling g mk a) (Vm.Alike.refl U.vm) q.2.2.2⟩
theorem gm_preS (hK : kb dC dI cI s) (hKz : va_K (dC, dI) vwCl [(cI, .int), (cZ, .boolean)] s) (hP : va_P (dC, dI) vwCl (mW cI cZ am M) H) : PreS s H (gm dC dI cI cZ am M av) av := ⟨gm_blind, fun U hU hW => ⟨rfl, by rw [hU]; exact hP, hK.warm hW, va_K.moved hW.alike hKz⟩⟩
theorem gm_preV (hK : kb dC dI cI s) (hKz : va_K (dC, dI) vwCl [(cI, .int), (cZ, .boolean)] s) (hP : va_P (dC, dI) vwCl (mW cI cZ am M) H) (hr : ∃ cellB : Cell, H[b]? = some cellB ∧ cellB.vm.isStatics = false ∧ s.vm.findClass C = some cellB.cls) : PreV s H C b (gm dC dI cI cZ am M (.ref b :: av)) av := ⟨gm_blind, hr, fun U hU hW => ⟨rfl, by rw [hU]; exact hP, hK.warm hW, va_K.moved hW.alike hKz⟩⟩
end GM
def bz (v : Int32) : Bool := decide (v = 0) || decide (v = 1)
theorem bz_n {v : Int32} (h : bz v = true) : narrow .boolean (.int v) = .int v := by
  unfold bz at h
  rw [Bool.or_eq_true, decide_eq_true_eq, decide_eq_true_eq] at h
  rcases h with rfl | rfl <;> rfl
