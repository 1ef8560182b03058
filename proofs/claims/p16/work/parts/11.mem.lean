/-! one memory a side: cell, place -/
abbrev Mem : Type := Nat → Nat → Int32
def up2 (M : Mem) (k j : Nat) (v : Int32) : Mem := va_up M k (upd (M k) j v)
/-- a world that has n cells, by their numbers -/
def cwl (n : Nat) (ad : Nat → Nat) (en : Nat → va_E) : va_W := (List.range n).map (fun k => (ad k, en k))
theorem cwl_get {n : Nat} {ad : Nat → Nat} {en : Nat → va_E} {k : Nat} (hk : k < n) : (cwl n ad en)[k]? = some (ad k, en k) := by
  simp [cwl, hk]
theorem cwl_len {n : Nat} {ad : Nat → Nat} {en : Nat → va_E} : (cwl n ad en).length = n := by simp [cwl]
theorem cwl_set {n : Nat} {ad : Nat → Nat} {en : Nat → va_E} {k : Nat} {e : va_E} (hk : k < n) : (cwl n ad en).set k (ad k, e) = cwl n ad (va_up en k e) := by
  apply List.ext_getElem?
  intro i
  by_cases h : i = k
  · subst h
    rw [List.getElem?_set_self (by rw [cwl_len]; exact hk), cwl_get hk, va_up_self]
  · rw [List.getElem?_set_ne (fun q => h q.symm)]
    by_cases hi : i < n
    · rw [cwl_get hi, cwl_get hi, va_up_ne _ _ h]
    · rw [List.getElem?_eq_none (by rw [cwl_len]; omega), List.getElem?_eq_none (by rw [cwl_len]; omega)]
/-- the cells are apart -/
def Inj (n : Nat) (ad : Nat → Nat) : Prop := ∀ i j, i < n → j < n → ad i = ad j → i = j
def Ac (n : Nat) (ad : Nat → Nat) : Nat → Prop := fun q => ∃ k, k < n ∧ q = ad k
theorem cwl_inv {n : Nat} {ad : Nat → Nat} {en : Nat → va_E} {k : Nat} {q : Nat × va_E} (h : (cwl n ad en)[k]? = some q) : k < n ∧ q = (ad k, en k) := by
  have hk : k < n := by
    have := (List.getElem?_eq_some_iff.mp h).1
    rw [cwl_len] at this
    exact this
  rw [cwl_get hk] at h
  exact ⟨hk, (Option.some.inj h).symm⟩
theorem cwl_D {n : Nat} {ad : Nat → Nat} (hI : Inj n ad) (en : Nat → va_E) : va_D (Ac n ad) (cwl n ad en) := by
  refine ⟨fun i j p q hi hj e => ?_, fun k q hk => ?_⟩
  · obtain ⟨h1, rfl⟩ := cwl_inv hi
    obtain ⟨h2, rfl⟩ := cwl_inv hj
    exact hI i j h1 h2 e
  · obtain ⟨h1, rfl⟩ := cwl_inv hk
    exact ⟨k, h1, rfl⟩
/-- Option, for places out of range, and for calls -/
def gd {α : Type} (b : Bool) (x : Option α) : Option α := match b with
  | true => x
  | false => none
theorem gd_some {α : Type} {b : Bool} {x : Option α} {y : α} (h : gd b x = some y) : b = true ∧ x = some y := by
  cases b
  · cases h
  · exact ⟨rfl, h⟩
def bi {α β : Type} (x : Option α) (f : α → Option β) : Option β := match x with
  | some a => f a
  | none => none
theorem bi_some {α β : Type} {x : Option α} {f : α → Option β} {y : β} (h : bi x f = some y) : ∃ a, x = some a ∧ f a = some y := by
  cases x with
  | none => cases h
  | some a => exact ⟨a, rfl, h⟩
def bm {β : Type} (M : Mem) (f : Mem → β) : β := f M
def inb (i : Int32) (n : Nat) : Bool := decide (0 ≤ i.toInt) && decide (i.toInt < n)
theorem inb_in {i : Int32} {n : Nat} (h : inb i n = true) : vp_in i n := by
  unfold inb at h
  rw [Bool.and_eq_true, decide_eq_true_eq, decide_eq_true_eq] at h
  exact vp_in_iff.mpr h
/-! the class's cells: 0 LendThreads, 1 works, 2 Shelf (3 values, 4 valuesWhenTaken, 5 holders, 6 lines: 7 counts, 8 items), 9 Post (10 there, 11 lost), 12 Diary (13 lines: 14 counts, 15 items), 16 + 7 i the i-th Work (+1 wanted: +2, +3; +4 receivers: +5, +6) -/
def kd (k : Nat) : Nat := if k < 16 then [0, 1, 2, 3, 3, 3, 4, 3, 3, 5, 3, 3, 6, 4, 3, 3].getD k 3 else [7, 4, 3, 3, 4, 3, 3].getD ((k - 16) % 7) 3
def ln (k : Nat) : Nat := if k < 16 then [0, 12, 0, 10, 10, 10, 0, 10, 120, 0, 144, 144, 0, 0, 1, 300].getD k 0 else [0, 0, 10, 40, 0, 10, 20].getD ((k - 16) % 7) 0
def enc (cI cW : ClassId) (ad : Nat → Nat) (M : Mem) (k : Nat) : va_E :=
  if kd k = 3 then .inl (cI, ln k, .inl (M k))
  else if kd k = 4 then .inr (2, [.int (M k 0), .ref (ad (k + 1)), .ref (ad (k + 2))])
  else if kd k = 7 then .inr (4, [.int (M k 0), .ref (ad (k + 1)), .ref (ad (k + 4)), .int (M k 3), .int (M k 4), .int (M k 5), .int (M k 6), .int (M k 7), .int (M k 8), .int (M k 9), .int (M k 10), .int (M k 11)])
  else if kd k = 0 then .inr (5, [.ref (ad (k + 1)), .int (M k 1), .ref (ad (k + 2)), .ref (ad (k + 9)), .ref (ad (k + 12))])
  else if kd k = 1 then .inl (cW, 12, .inr (.inr (.inr (.inr (fun i => some (ad (16 + 7 * i)))))))
  else if kd k = 2 then .inr (3, [.ref (ad (k + 1)), .ref (ad (k + 2)), .ref (ad (k + 3)), .ref (ad (k + 4))])
  else if kd k = 5 then .inr (1, [.ref (ad (k + 1)), .ref (ad (k + 2)), .int (M k 2)])
  else .inr (0, [.ref (ad (k + 1))])
abbrev cW (cI cW9 : ClassId) (ad : Nat → Nat) (M : Mem) : va_W := cwl 100 ad (enc cI cW9 ad M)
section CWG
variable {cI c9 : ClassId} {ad : Nat → Nat} {M : Mem} {k : Nat}
theorem cw_arr (hk : k < 100) (h : kd k = 3) : (cW cI c9 ad M)[k]? = some (ad k, .inl (cI, ln k, .inl (M k))) := by
  rw [cwl_get hk]; simp [enc, h]
theorem cw_rows (hk : k < 100) (h : kd k = 4) : (cW cI c9 ad M)[k]? = some (ad k, .inr (2, [.int (M k 0), .ref (ad (k + 1)), .ref (ad (k + 2))])) := by
  rw [cwl_get hk]; simp [enc, h]
theorem cw_work (hk : k < 100) (h : kd k = 7) : (cW cI c9 ad M)[k]? = some (ad k, .inr (4, [.int (M k 0), .ref (ad (k + 1)), .ref (ad (k + 4)), .int (M k 3), .int (M k 4), .int (M k 5), .int (M k 6), .int (M k 7), .int (M k 8), .int (M k 9), .int (M k 10), .int (M k 11)])) := by
  rw [cwl_get hk]; simp [enc, h]
theorem cw_lt : (cW cI c9 ad M)[0]? = some (ad 0, .inr (5, [.ref (ad 1), .int (M 0 1), .ref (ad 2), .ref (ad 9), .ref (ad 12)])) := by
  rw [cwl_get (by decide)]; simp [enc, kd]
theorem cw_ws : (cW cI c9 ad M)[1]? = some (ad 1, .inl (c9, 12, .inr (.inr (.inr (.inr (fun i => some (ad (16 + 7 * i)))))))) := by
  rw [cwl_get (by decide)]; simp [enc, kd]
theorem cw_shelf : (cW cI c9 ad M)[2]? = some (ad 2, .inr (3, [.ref (ad 3), .ref (ad 4), .ref (ad 5), .ref (ad 6)])) := by
  rw [cwl_get (by decide)]; simp [enc, kd]
theorem cw_post : (cW cI c9 ad M)[9]? = some (ad 9, .inr (1, [.ref (ad 10), .ref (ad 11), .int (M 9 2)])) := by
  rw [cwl_get (by decide)]; simp [enc, kd]
theorem cw_diary : (cW cI c9 ad M)[12]? = some (ad 12, .inr (0, [.ref (ad 13)])) := by
  rw [cwl_get (by decide)]; simp [enc, kd]
theorem en_arr {g : Nat → Int32} (h : kd k = 3) : va_up (enc cI c9 ad M) k (.inl (cI, ln k, .inl g)) = enc cI c9 ad (va_up M k g) := by
  funext a
  by_cases ha : a = k
  · subst ha; simp [va_up, enc, h]
  · simp only [va_up_ne _ _ ha, enc]
theorem en_obj {ci : Nat} {fs : List Value} {g : Nat → Int32} (h : enc cI c9 ad (va_up M k g) k = .inr (ci, fs)) : va_up (enc cI c9 ad M) k (.inr (ci, fs)) = enc cI c9 ad (va_up M k g) := by
  funext a
  by_cases ha : a = k
  · subst ha; rw [va_up_self, h]
  · simp only [va_up_ne _ _ ha, enc]
end CWG
/-- an index below a bound's number -/
theorem upd_us {f : Nat → Int32} {k : Nat} {x : Int32} : upd f k x k = x := pk_us
theorem upd_un {f : Nat → Int32} {k j : Nat} {x : Int32} (h : j ≠ k) : upd f k x j = f j := pk_un h
section EP
variable {cI c9 : ClassId} {ad : Nat → Nat} {M : Mem} {k : Nat} {v : Int32}
theorem en_p0 : va_up (enc cI c9 ad M) 0 (.inr (5, [.ref (ad 1), .int v, .ref (ad 2), .ref (ad 9), .ref (ad 12)])) = enc cI c9 ad (up2 M 0 1 v) := en_obj (by simp [enc, kd, va_up, upd])
theorem en_p9 : va_up (enc cI c9 ad M) 9 (.inr (1, [.ref (ad 10), .ref (ad 11), .int v])) = enc cI c9 ad (up2 M 9 2 v) := en_obj (by simp [enc, kd, va_up, upd])
theorem en_w3 (h : kd k = 7) : va_up (enc cI c9 ad M) k (.inr (4, [.int (M k 0), .ref (ad (k + 1)), .ref (ad (k + 4)), .int v, .int (M k 4), .int (M k 5), .int (M k 6), .int (M k 7), .int (M k 8), .int (M k 9), .int (M k 10), .int (M k 11)])) = enc cI c9 ad (up2 M k 3 v) := en_obj (by simp [enc, h, va_up, upd])
theorem en_w4 (h : kd k = 7) : va_up (enc cI c9 ad M) k (.inr (4, [.int (M k 0), .ref (ad (k + 1)), .ref (ad (k + 4)), .int (M k 3), .int v, .int (M k 5), .int (M k 6), .int (M k 7), .int (M k 8), .int (M k 9), .int (M k 10), .int (M k 11)])) = enc cI c9 ad (up2 M k 4 v) := en_obj (by simp [enc, h, va_up, upd])
theorem en_w5 (h : kd k = 7) : va_up (enc cI c9 ad M) k (.inr (4, [.int (M k 0), .ref (ad (k + 1)), .ref (ad (k + 4)), .int (M k 3), .int (M k 4), .int v, .int (M k 6), .int (M k 7), .int (M k 8), .int (M k 9), .int (M k 10), .int (M k 11)])) = enc cI c9 ad (up2 M k 5 v) := en_obj (by simp [enc, h, va_up, upd])
theorem en_w6 (h : kd k = 7) : va_up (enc cI c9 ad M) k (.inr (4, [.int (M k 0), .ref (ad (k + 1)), .ref (ad (k + 4)), .int (M k 3), .int (M k 4), .int (M k 5), .int v, .int (M k 7), .int (M k 8), .int (M k 9), .int (M k 10), .int (M k 11)])) = enc cI c9 ad (up2 M k 6 v) := en_obj (by simp [enc, h, va_up, upd])
theorem en_w7 (h : kd k = 7) : va_up (enc cI c9 ad M) k (.inr (4, [.int (M k 0), .ref (ad (k + 1)), .ref (ad (k + 4)), .int (M k 3), .int (M k 4), .int (M k 5), .int (M k 6), .int v, .int (M k 8), .int (M k 9), .int (M k 10), .int (M k 11)])) = enc cI c9 ad (up2 M k 7 v) := en_obj (by simp [enc, h, va_up, upd])
theorem en_w8 (h : kd k = 7) : va_up (enc cI c9 ad M) k (.inr (4, [.int (M k 0), .ref (ad (k + 1)), .ref (ad (k + 4)), .int (M k 3), .int (M k 4), .int (M k 5), .int (M k 6), .int (M k 7), .int v, .int (M k 9), .int (M k 10), .int (M k 11)])) = enc cI c9 ad (up2 M k 8 v) := en_obj (by simp [enc, h, va_up, upd])
theorem en_w9 (h : kd k = 7) : va_up (enc cI c9 ad M) k (.inr (4, [.int (M k 0), .ref (ad (k + 1)), .ref (ad (k + 4)), .int (M k 3), .int (M k 4), .int (M k 5), .int (M k 6), .int (M k 7), .int (M k 8), .int v, .int (M k 10), .int (M k 11)])) = enc cI c9 ad (up2 M k 9 v) := en_obj (by simp [enc, h, va_up, upd])
theorem en_w10 (h : kd k = 7) : va_up (enc cI c9 ad M) k (.inr (4, [.int (M k 0), .ref (ad (k + 1)), .ref (ad (k + 4)), .int (M k 3), .int (M k 4), .int (M k 5), .int (M k 6), .int (M k 7), .int (M k 8), .int (M k 9), .int v, .int (M k 11)])) = enc cI c9 ad (up2 M k 10 v) := en_obj (by simp [enc, h, va_up, upd])
theorem en_w11 (h : kd k = 7) : va_up (enc cI c9 ad M) k (.inr (4, [.int (M k 0), .ref (ad (k + 1)), .ref (ad (k + 4)), .int (M k 3), .int (M k 4), .int (M k 5), .int (M k 6), .int (M k 7), .int (M k 8), .int (M k 9), .int (M k 10), .int v])) = enc cI c9 ad (up2 M k 11 v) := en_obj (by simp [enc, h, va_up, upd])
end EP
